theorem oz1044_m {a0 a1 a2 a3 : Int} (h0 : a0 < a1) (h1 : a2 = a0 + a3) (h2 : a1 = 5) (h3 : a3 = 1) : a2 ≤ 5 := by omega
theorem oz1047_m {a0 a1 a2 : Int} (h0 : a0 ≤ 5) (h1 : a1 = a0 - a2) (h2 : a2 = 1) : a1 ≤ 5 := by omega
theorem oz1048_m {a0 a1 a2 : Int} (h0 : a0 ≤ 5) (h1 : a1 = a0 - a2) (h2 : a2 = 1) : a2 + a1 ≤ 5 := by omega
theorem oz1049_m {a0 a1 a2 a3 : Int} (h0 : a0 ≤ 5) (h1 : a1 = a0 - a2) (h2 : a2 = 1) (h3 : a3 = 0) : a3 + a1 ≤ 5 := by omega
theorem oz1051_m {a0 a1 : Int} (h0 : a0 ≤ 8) (h1 : ¬ (a1 = 0)) (h2 : ¬ (a1 = 1)) (h3 : ¬ (a1 = 2)) (h4 : ¬ (a1 = 3)) (h5 : ¬ (a1 = 4)) (h6 : ¬ (a1 = 5)) (h7 : ¬ (a1 = 6)) (h8 : ¬ (a1 = 7)) (h9 : (0 : Int) ≤ a1) (h10 : a1 < a0) : False := by omega
theorem oz1052_m {a0 a1 a2 : Int} (h0 : a0 ≠ a1) (h1 : ¬ (a0 = 1)) (h2 : ¬ (a0 = 2)) (h3 : ¬ (a0 = 0)) (h4 : a2 ≤ a0) (h5 : a0 ≤ a1) (h6 : a1 = 3) (h7 : a2 = 0) : False := by omega
theorem oz1053_m {a0 a1 : Int} (h0 : a0 = a1) (h1 : a1 = 3) : ¬ (a0 = 0) := by omega
theorem oz1054_m {a0 a1 : Int} (h0 : a0 = a1) (h1 : a1 = 3) : ¬ (a0 = 1) := by omega
theorem oz1055_m {a0 a1 : Int} (h0 : a0 = a1) (h1 : a1 = 3) : ¬ (a0 = 2) := by omega
theorem oz1056_m {a0 a1 : Int} (h0 : a0 < a1) (h1 : a1 ≤ 20) : a0 < 20 := by omega
theorem oz1057_m {a0 a1 a2 : Int} (h0 : a0 < a1) (h1 : a1 ≤ 20) (h2 : a2 = 1) : a0 + a2 ≤ 2147483647 := by omega
theorem oz1058_m {a0 a1 : Int} (h0 : a0 ≤ a1) (h1 : a1 = 20) : a0 ≤ 20 := by omega
theorem oz1059_m {a0 a1 a2 : Int} (h0 : a0 ≤ a1) (h1 : a1 ≤ 20) (h2 : a2 = 1) : a0 + a2 ≤ 2147483647 := by omega
theorem oz1060_m {a0 a1 a2 a3 : Int} (h0 : a0 < a1) (h1 : a2 ≤ a3) (h2 : a1 = 20) (h3 : a2 = 0) : a0 - a3 ≤ 2147483647 := by omega
theorem oz1061_m {a0 a1 a2 : Int} (h0 : a0 ≤ a1) (h1 : a2 = a1 - a0) : (0 : Int) ≤ a2 := by omega
theorem oz1062_m {a0 a1 a2 : Int} (h0 : a0 ≤ 20) (h1 : a1 = a0 - a2) : a2 + a1 ≤ 20 := by omega
theorem oz1063_m {a0 a1 a2 a3 a4 a5 : Int} (h0 : a0 < a1) (h1 : a2 = a3 + a4) (h2 : a5 = a0 - a3) (h3 : a1 = 20) (h4 : a4 = 1) : a2 + a5 ≤ 20 := by omega
theorem oz1064_m {a0 a1 a2 : Int} (h0 : a0 < a1) (h1 : a2 ≤ a0) (h2 : a1 = 20) : a2 < 20 := by omega
theorem oz1065_m {a0 : Int} (h0 : a0 ≤ 19) : a0 < 20 := by omega
theorem oz1066_m {a0 a1 : Int} (h0 : a0 < a1) (h1 : a1 ≤ 20) (h2 : (0 : Int) ≤ a0) : ((0 : Int) ≤ a0) ∧ (a0 ≤ 19) := by omega
theorem oz1067_m {a0 a1 a2 a3 : Int} (h0 : a0 < a1) (h1 : a1 ≤ 20) (h2 : (0 : Int) ≤ a2) (h3 : a0 = a2 + a3) (h4 : a3 = 1) : ((0 : Int) ≤ a0) ∧ (a0 ≤ 19) := by omega
theorem oz1068_m {a0 a1 a2 a3 a4 a5 : Int} (h0 : a0 = a1) (h1 : a1 = a2) (h2 : a3 = a4 + a5) (h3 : a5 = 1) : (a0 - a3) < (a2 - a4) := by omega
theorem oz1069_m {a0 a1 a2 a3 : Int} (h0 : a0 ≤ a1) (h1 : a1 < a2) (h2 : a3 ≤ a0) (h3 : a2 = 20) (h4 : a3 = 0) : ((0 : Int) ≤ a0) ∧ (a0 ≤ 19) := by omega
theorem oz1070_m {a0 a1 a2 a3 : Int} (h0 : a0 < a1) (h1 : a1 ≤ 20) (h2 : (0 : Int) ≤ a2) (h3 : a0 = a2 + a3) (h4 : a3 = 1) : ((0 : Int) ≤ a2) ∧ (a2 ≤ 19) := by omega
theorem oz1071_m {a0 a1 a2 a3 : Int} (h0 : a0 < a1) (h1 : a1 ≤ 20) (h2 : (0 : Int) ≤ a2) (h3 : a0 = a2 + a3) (h4 : a3 = 1) : ((0 : Int) ≤ a0) ∧ (a0 ≤ 20) := by omega
theorem oz1072_m {a0 a1 : Int} (h0 : (0 : Int) ≤ a0) (h1 : a1 = 2) : (-2147483648 : Int) ≤ a0 - a1 := by omega
theorem oz1073_m {a0 a1 : Int} (h0 : a0 ≤ 20) (h1 : a1 = 2) : a0 - a1 ≤ 2147483647 := by omega
theorem oz1074_m {a0 a1 : Int} (h0 : a0 < a1) (h1 : a1 ≤ a0) (h2 : a1 = 0) : False := by omega
theorem oz1075_m {a0 a1 : Int} (h0 : a0 ≤ 20) (h1 : a1 ≤ (a0 - 2)) : a1 < 20 := by omega
theorem oz1076_m {a0 a1 a2 : Int} (h0 : a0 ≤ 20) (h1 : a1 ≤ (a0 - 2)) (h2 : a2 = 1) : a1 + a2 ≤ 2147483647 := by omega
theorem oz1077_m {a0 a1 a2 a3 : Int} (h0 : a0 ≤ 20) (h1 : a1 ≤ (a0 - 2)) (h2 : a2 = a1 + a3) (h3 : a3 = 1) : a2 < 20 := by omega
theorem oz1078_m {a0 a1 : Int} (h0 : a0 ≤ 20) (h1 : a1 = 1) : a0 - a1 ≤ 2147483647 := by omega
theorem oz1079_m {a0 a1 a2 : Int} (h0 : a0 ≤ a1) (h1 : a2 ≤ 20) (h2 : a1 ≤ (a2 - 2)) (h3 : a0 = 0) : ((0 : Int) ≤ a1) ∧ (a1 ≤ 19) := by omega
theorem oz1080_m {a0 a1 a2 a3 : Int} (h0 : a0 ≤ a1) (h1 : a2 ≤ a1) (h2 : a3 ≤ 20) (h3 : a1 ≤ a0) (h4 : a1 ≤ (a3 - 2)) (h5 : a2 = 0) : ((0 : Int) ≤ a0) ∧ (a0 ≤ 19) := by omega
theorem oz1081_m {a0 a1 a2 : Int} (h0 : a0 < a1) (h1 : a2 ≤ 20) (h2 : (1 : Int) ≤ a0) (h3 : a1 ≤ (a2 - 1)) : ((0 : Int) ≤ a0) ∧ (a0 ≤ 19) := by omega
theorem oz1082_m {a0 a1 a2 : Int} (h0 : a0 < a1) (h1 : a2 ≤ 20) (h2 : (1 : Int) ≤ a0) (h3 : a1 ≤ (a2 - 1)) : ((0 : Int) ≤ a1) ∧ (a1 ≤ 19) := by omega
theorem oz1083_m {a0 a1 a2 : Int} (h0 : a0 < a1) (h1 : (1 : Int) ≤ a0) (h2 : a2 = (-1)) : (-2147483648 : Int) ≤ a1 + a2 := by omega
theorem oz1084_m {a0 a1 a2 : Int} (h0 : a0 ≤ 20) (h1 : a1 ≤ (a0 - 1)) (h2 : a2 = (-1)) : a1 + a2 ≤ 2147483647 := by omega
theorem oz1085_m {a0 a1 a2 a3 : Int} (h0 : a0 < a1) (h1 : a2 ≤ 20) (h2 : a1 ≤ (a2 - 1)) (h3 : a3 = 1) : a0 + a3 ≤ 2147483647 := by omega
theorem oz1086_m {a0 a1 a2 a3 a4 : Int} (h0 : a0 = a1) (h1 : a2 ≤ (a1 - 1)) (h2 : a3 = a2 + a4) (h3 : a4 = (-1)) : a3 ≤ (a0 - 1) := by omega
theorem oz1087_m {a0 a1 a2 a3 a4 a5 : Int} (h0 : a0 = a1 + a2) (h1 : a3 = a4 + a5) (h2 : a2 = (-1)) (h3 : a5 = 1) : (a0 - a3) < (a1 - a4) := by omega
theorem oz1088_m {a0 a1 a2 a3 : Int} (h0 : a0 ≤ a1) (h1 : a2 = a1 + a3) (h2 : a0 = 0) (h3 : a3 = 1) : (1 : Int) ≤ a2 := by omega
theorem oz1089_m {a0 a1 a2 : Int} (h0 : a0 < a1) (h1 : a2 ≤ a0) (h2 : a2 = 0) : (0 : Int) ≤ a1 := by omega
theorem oz1090_m {a0 a1 : Int} (h0 : a0 ≤ 20) (h1 : a1 ≤ (a0 - 1)) : a1 < 20 := by omega
theorem oz1091_m {a0 a1 a2 a3 : Int} (h0 : a0 < a1) (h1 : a2 ≤ a0) (h2 : a3 ≤ 20) (h3 : a1 ≤ (a3 - 1)) (h4 : a2 = 0) : ((0 : Int) ≤ a1) ∧ (a1 ≤ 19) := by omega
theorem oz1092_m {a0 a1 a2 a3 : Int} (h0 : a0 < a1) (h1 : a2 ≤ a0) (h2 : a2 = 0) (h3 : a3 = (-1)) : (-2147483648 : Int) ≤ a1 + a3 := by omega
theorem oz1093_m {a0 a1 a2 a3 a4 : Int} (h0 : a0 < a1) (h1 : a2 ≤ a0) (h2 : a3 = a1 + a4) (h3 : a2 = 0) (h4 : a4 = (-1)) : ((0 : Int) ≤ a0) ∧ (a0 ≤ a3) := by omega
theorem oz1094_m {a0 a1 a2 a3 a4 : Int} (h0 : a0 ≤ a1) (h1 : a1 ≤ (a2 - 2)) (h2 : a3 = a2 - a4) (h3 : a0 = 0) (h4 : a4 = 1) : ((0 : Int) ≤ a1) ∧ (a1 ≤ a3) := by omega
theorem oz1095_m {a0 a1 a2 : Int} (h0 : a0 ≤ a1) (h1 : a0 = 0) (h2 : a2 = (-1)) : (-2147483648 : Int) ≤ a1 + a2 := by omega
theorem oz1096_m {a0 a1 a2 : Int} (h0 : a0 ≤ 20) (h1 : a1 ≤ (a0 - 2)) (h2 : a2 = (-1)) : a1 + a2 ≤ 2147483647 := by omega
theorem oz1097_m {a0 a1 a2 a3 : Int} (h0 : a0 ≤ (a1 - 2)) (h1 : a2 = a0 + a3) (h2 : a3 = (-1)) : a2 ≤ (a1 - 2) := by omega
theorem oz1098_m {a0 a1 a2 : Int} (h0 : a0 = a1 - a2) (h1 : a2 = 2) : a0 ≤ (a1 - 2) := by omega
theorem oz1099_m {a0 a1 : Int} (h0 : a0 = a1) (h1 : a1 ≤ 5) : a0 ≤ 5 := by omega
theorem oz1100_m {a0 a1 a2 : Int} (h0 : a0 < a1) (h1 : a1 = 120) (h2 : a2 = 1) : a0 + a2 ≤ 2147483647 := by omega
theorem oz1101_m {a0 a1 a2 : Int} (h0 : a0 = a1) (h1 : a2 = a0) (h2 : a1 ≤ 5) : a2 ≤ 5 := by omega
theorem oz1102_m {a0 a1 a2 : Int} (h0 : a0 = a1 + a2) (h1 : a2 = 1) : (120 - a0) < (120 - a1) := by omega
theorem oz1103_m {a0 a1 : Int} (h0 : a0 < a1) (h1 : a1 = 120) : (1 : Int) ≤ (120 - a0) := by omega
theorem oz1104_m {a0 a1 : Int} (h0 : a0 ≤ 20) (h1 : a1 = 0) : a1 + a0 ≤ 20 := by omega
theorem oz1105_m {a0 a1 a2 : Int} (h0 : a0 = a1) (h1 : a1 ≤ 5) (h2 : a2 = 0) : a2 + a0 ≤ 5 := by omega
theorem oz1110_m {a0 : Int} (h0 : a0 = 0) : a0 ≤ 5 := by omega
theorem oz1111_m {a0 a1 a2 a3 : Int} (h0 : a0 ≤ a1) (h1 : a2 = a1) (h2 : a3 = a2) (h3 : a0 = 5) : (0 : Int) ≤ a3 := by omega
theorem oz1112_m {a0 : Int} (h0 : a0 ≤ 5) : a0 < 20 := by omega
theorem oz1113_m {a0 a1 a2 : Int} (h0 : a0 ≤ 5) (h1 : a1 = a0 + a2) (h2 : a2 = 1) : a1 ≤ 20 := by omega
theorem oz1114_m {a0 a1 a2 : Int} (h0 : a0 < a1) (h1 : a1 ≤ a2) (h2 : a2 = 5) : a0 < 5 := by omega
theorem oz1116_m {a0 a1 : Int} (h0 : a0 = (a1 % 10)) : (0 : Int) ≤ a0 := by omega
theorem oz1117_m {a0 a1 a2 : Int} (h0 : a0 ≤ 8) (h1 : a1 = (a2 % 10)) (h2 : (a2 % 10) < a0) : a1 < 8 := by omega
theorem oz1118_m {a0 a1 a2 : Int} (h0 : a0 ≤ 8) (h1 : a1 = (a2 / 10)) (h2 : ¬ (a1 = 1)) (h3 : ¬ (a1 = 2)) (h4 : ¬ (a1 = 3)) (h5 : ¬ (a1 = 4)) (h6 : ¬ (a1 = 5)) (h7 : ¬ (a1 = 6)) (h8 : ¬ (a1 = 7)) (h9 : ¬ (a1 = 0)) (h10 : (0 : Int) ≤ a2) (h11 : (a2 / 10) < a0) (h12 : (a2 % 10) < a0) : False := by omega
theorem oz1119_m {a0 a1 : Int} (h0 : a0 < a1) (h1 : a1 ≤ 8) : a0 < 8 := by omega
theorem oz1120_m {a0 a1 : Int} (h0 : a0 = 1) (h1 : a1 = 1) : (-2147483648 : Int) ≤ a0 + a1 := by omega
theorem oz1121_m {a0 a1 a2 : Int} (h0 : a0 = a1 + a2) (h1 : a1 = 1) (h2 : a2 = 1) : (0 : Int) ≤ a0 := by omega
theorem oz1122_m {a0 a1 : Int} (h0 : a0 = 2) (h1 : a1 = 1) : (-2147483648 : Int) ≤ a0 + a1 := by omega
theorem oz1123_m {a0 a1 a2 : Int} (h0 : a0 = a1 + a2) (h1 : a1 = 2) (h2 : a2 = 1) : (0 : Int) ≤ a0 := by omega
theorem oz1124_m {a0 a1 : Int} (h0 : a0 = 3) (h1 : a1 = 1) : (-2147483648 : Int) ≤ a0 + a1 := by omega
theorem oz1125_m {a0 a1 a2 : Int} (h0 : a0 = a1 + a2) (h1 : a1 = 3) (h2 : a2 = 1) : (0 : Int) ≤ a0 := by omega
theorem oz1126_m {a0 a1 : Int} (h0 : a0 = 4) (h1 : a1 = 1) : (-2147483648 : Int) ≤ a0 + a1 := by omega
theorem oz1127_m {a0 a1 a2 : Int} (h0 : a0 = a1 + a2) (h1 : a1 = 4) (h2 : a2 = 1) : (0 : Int) ≤ a0 := by omega
theorem oz1128_m {a0 a1 : Int} (h0 : a0 = 5) (h1 : a1 = 1) : (-2147483648 : Int) ≤ a0 + a1 := by omega
theorem oz1129_m {a0 a1 a2 : Int} (h0 : a0 = a1 + a2) (h1 : a1 = 5) (h2 : a2 = 1) : (0 : Int) ≤ a0 := by omega
theorem oz1130_m {a0 : Int} (h0 : a0 = 6) : (0 : Int) ≤ a0 := by omega
theorem oz1131_m {a0 a1 : Int} (h0 : a0 = 6) (h1 : a1 = 1) : (-2147483648 : Int) ≤ a0 + a1 := by omega
theorem oz1132_m {a0 a1 a2 : Int} (h0 : a0 = a1 + a2) (h1 : a1 = 6) (h2 : a2 = 1) : (0 : Int) ≤ a0 := by omega
theorem oz1133_m {a0 : Int} (h0 : a0 = 7) : (0 : Int) ≤ a0 := by omega
theorem oz1134_m {a0 a1 : Int} (h0 : a0 = 7) (h1 : a1 = 1) : (-2147483648 : Int) ≤ a0 + a1 := by omega
theorem oz1135_m {a0 a1 a2 : Int} (h0 : a0 = a1 + a2) (h1 : a1 = 7) (h2 : a2 = 1) : (0 : Int) ≤ a0 := by omega
theorem oz1136_m {a0 a1 : Int} (h0 : a0 < a1) (h1 : (0 : Int) ≤ a0) (h2 : ¬ (a0 = 6)) (h3 : ¬ (a0 = 7)) (h4 : ¬ (a0 = 0)) (h5 : ¬ (a0 = 1)) (h6 : ¬ (a0 = 2)) (h7 : ¬ (a0 = 3)) (h8 : ¬ (a0 = 4)) (h9 : ¬ (a0 = 5)) (h10 : a1 = 8) : False := by omega
theorem oz1137_m {a0 : Int} (h0 : (0 : Int) ≤ a0) (h1 : a0 = 0) (h2 : ¬ (a0 = 0)) : False := by omega
theorem oz1143_m {a0 : Int} (h0 : a0 = 5) (h1 : ¬ (a0 = 5)) : False := by omega
theorem oz1145_m {a0 : Int} (h0 : a0 = 6) (h1 : ¬ (a0 = 6)) : False := by omega
theorem oz1147_m {a0 a1 : Int} (h0 : a0 < a1) (h1 : a0 = 7) (h2 : ¬ (a0 = 7)) (h3 : a1 = 8) : False := by omega
theorem oz1148_m {a0 a1 : Int} (h0 : a0 < a1) (h1 : (0 : Int) ≤ a0) (h2 : ¬ (a0 = 1)) (h3 : ¬ (a0 = 2)) (h4 : ¬ (a0 = 3)) (h5 : ¬ (a0 = 4)) (h6 : ¬ (a0 = 5)) (h7 : ¬ (a0 = 6)) (h8 : ¬ (a0 = 0)) (h9 : ¬ (a0 = 7)) (h10 : a1 = 8) : False := by omega
theorem oz1149_m {a0 a1 : Int} (h0 : a0 = a1) (h1 : a0 = 1) : (0 : Int) ≤ a1 := by omega
theorem oz1150_m {a0 a1 a2 : Int} (h0 : a0 = a1) (h1 : a0 = 1) (h2 : a2 = 1) : (-2147483648 : Int) ≤ a1 + a2 := by omega
theorem oz1151_m {a0 a1 a2 a3 : Int} (h0 : a0 = a1) (h1 : a2 = a1 + a3) (h2 : a0 = 1) (h3 : a3 = 1) : (0 : Int) ≤ a2 := by omega
theorem oz1152_m {a0 a1 : Int} (h0 : a0 = a1) (h1 : a0 = 2) : (0 : Int) ≤ a1 := by omega
theorem oz1153_m {a0 a1 a2 : Int} (h0 : a0 = a1) (h1 : a0 = 2) (h2 : a2 = 1) : (-2147483648 : Int) ≤ a1 + a2 := by omega
theorem oz1154_m {a0 a1 a2 a3 : Int} (h0 : a0 = a1) (h1 : a2 = a1 + a3) (h2 : a0 = 2) (h3 : a3 = 1) : (0 : Int) ≤ a2 := by omega
theorem oz1155_m {a0 a1 : Int} (h0 : a0 = a1) (h1 : a0 = 3) : (0 : Int) ≤ a1 := by omega
theorem oz1156_m {a0 a1 a2 : Int} (h0 : a0 = a1) (h1 : a0 = 3) (h2 : a2 = 1) : (-2147483648 : Int) ≤ a1 + a2 := by omega
theorem oz1157_m {a0 a1 a2 a3 : Int} (h0 : a0 = a1) (h1 : a2 = a1 + a3) (h2 : a0 = 3) (h3 : a3 = 1) : (0 : Int) ≤ a2 := by omega
theorem oz1158_m {a0 a1 : Int} (h0 : a0 = a1) (h1 : a0 = 4) : (0 : Int) ≤ a1 := by omega
theorem oz1159_m {a0 a1 a2 : Int} (h0 : a0 = a1) (h1 : a0 = 4) (h2 : a2 = 1) : (-2147483648 : Int) ≤ a1 + a2 := by omega
theorem oz1160_m {a0 a1 a2 a3 : Int} (h0 : a0 = a1) (h1 : a2 = a1 + a3) (h2 : a0 = 4) (h3 : a3 = 1) : (0 : Int) ≤ a2 := by omega
theorem oz1161_m {a0 a1 : Int} (h0 : a0 = a1) (h1 : a0 = 5) : (0 : Int) ≤ a1 := by omega
theorem oz1162_m {a0 a1 a2 : Int} (h0 : a0 = a1) (h1 : a0 = 5) (h2 : a2 = 1) : (-2147483648 : Int) ≤ a1 + a2 := by omega
theorem oz1163_m {a0 a1 a2 a3 : Int} (h0 : a0 = a1) (h1 : a2 = a1 + a3) (h2 : a0 = 5) (h3 : a3 = 1) : (0 : Int) ≤ a2 := by omega
theorem oz1164_m {a0 a1 : Int} (h0 : a0 = a1) (h1 : a0 = 6) : (0 : Int) ≤ a1 := by omega
theorem oz1165_m {a0 a1 a2 : Int} (h0 : a0 = a1) (h1 : a0 = 6) (h2 : a2 = 1) : (-2147483648 : Int) ≤ a1 + a2 := by omega
theorem oz1166_m {a0 a1 a2 a3 : Int} (h0 : a0 = a1) (h1 : a2 = a1 + a3) (h2 : a0 = 6) (h3 : a3 = 1) : (0 : Int) ≤ a2 := by omega
theorem oz1167_m {a0 a1 : Int} (h0 : a0 = a1) (h1 : a0 = 7) : (0 : Int) ≤ a1 := by omega
theorem oz1168_m {a0 a1 a2 : Int} (h0 : a0 = a1) (h1 : a0 = 7) (h2 : a2 = 1) : (-2147483648 : Int) ≤ a1 + a2 := by omega
theorem oz1169_m {a0 a1 a2 a3 : Int} (h0 : a0 = a1) (h1 : a2 = a1 + a3) (h2 : a0 = 7) (h3 : a3 = 1) : (0 : Int) ≤ a2 := by omega
def w1_56_m : kW := ([3586], [57, 58], [], [])
set_option maxRecDepth 100000 in
theorem kc1_56_m {i : Nat → Int32} {a : Nat → List Int32} {q : Nat → List Int64} {r : Nat → Nat} (hI : kI i a q) (hr : kr r) (x1 : Int32) (x2 : Int32) : km 1 1 [.ref 56, .int x1, .int x2] (ks i a q r) (kVN w1_56_m i a q r (fun i1 a1 q1 r1 => True)) := by
  have hG := kG_self w1_56_m hI hr
  refine km_ofN (q := (mi_h1, mi_c1)) rfl (by decide) (Nat.le_of_ble_eq_true rfl) ?_
  intro P hP
  have fi_3586 : ((0 : Int) ≤ (i 3586).toInt) ∧ ((i 3586).toInt ≤ 5) := hG.I.1 3586
  refine fo_goL mi_k1 fz1_0_3_5 [(0, .ref 56), (1, .int x1), (2, .int x2)] [.int 5, .int (i 3586)] rfl ?_
  refine ft_ifS mi_k1 (decide (5 ≤ (i 3586))) 38 8 [] rfl (fun c => ?_) (fun c => ?_)
  ·
    have c1 : (5 : Int32).toInt ≤ (i 3586).toInt := kd_le c; clear c
    exact ft_ret mi_k1 rfl (hP  _ _ _ _ hG trivial)
  ·
    have c2 : (i 3586).toInt < (5 : Int32).toInt := kd_leF c; clear c
    refine fo_goS mi_k1 fz1_8_5_17 [.int x1, .int (i 3586), .ref 57] rfl ?_
    refine ko_iast3 mi_k1.1 (n := 5) (c := 5) (ax := (0, 0, 0, 0, 0)) (mi_k1.2 _ _ (by rfl)) (by rfl) (ksG57 _ _ _ _) (ksA57 _ _ _ _) (hG.I.2.1 57) rfl (oz3 fi_3586.1) (oz560 c2 kn5) ?_
    intro a3 ea3 fa3
    have hJ3 := kG_a3 hG 57 rfl ea3 fa3 (kd_bd _)
    refine fo_goS mi_k1 fz1_18_5_27 [.int x2, .int (i 3586), .ref 58] rfl ?_
    refine ko_iast3 mi_k1.1 (n := 5) (c := 5) (ax := (0, 0, 0, 0, 0)) (mi_k1.2 _ _ (by rfl)) (by rfl) (ksG58 _ _ _ _) (ksA58 _ _ _ _) (hJ3.I.2.1 58) rfl (oz3 fi_3586.1) (oz560 c2 kn5) ?_
    intro a4 ea4 fa4
    have hJ4 := kG_a3 hJ3 58 rfl ea4 fa4 (kd_bd _)
    have s5 : ((i 3586) + 1).toInt = (i 3586).toInt + (1 : Int32).toInt := kd_add (oz12 fi_3586.1 kn1) (oz323 fi_3586.2 kn1)
    have hJ6 := kG_i hJ4 3586 rfl (v := ((i 3586) + 1)) ⟨(oz14 fi_3586.1 s5 kn1), (oz1044_m c2 s5 kn5 kn1)⟩
    first | refine fo_goI mi_k1 fz1_28_6_38 [] (ku i 3586 ((i 3586) + 1)) (by rfl) ?_ | refine ft_go mi_k1 6 38 [(0, .ref 56), (1, .int x1), (2, .int x2)] [] (ku i 3586 ((i 3586) + 1)) a4 q r (by rfl) ?_
    exact ft_ret mi_k1 rfl (hP  _ _ _ _ hJ6 trivial)
def w2_56_m : kW := ([3586], [57, 58], [], [])
set_option maxRecDepth 100000 in
theorem kc2_56_m {i : Nat → Int32} {a : Nat → List Int32} {q : Nat → List Int64} {r : Nat → Nat} (hI : kI i a q) (hr : kr r)  : km 1 2 [.ref 56] (ks i a q r) (kVN w2_56_m i a q r (fun i1 a1 q1 r1 => True)) := by
  have hG := kG_self w2_56_m hI hr
  refine km_ofN (q := (mi_h2, mi_c2)) rfl (by decide) (Nat.le_of_ble_eq_true rfl) ?_
  intro P hP
  have fi_3586 : ((0 : Int) ≤ (i 3586).toInt) ∧ ((i 3586).toInt ≤ 5) := hG.I.1 3586
  refine fo_goL mi_k2 fz2_0_2_4 [(0, .ref 56)] [.int (i 3586)] rfl ?_
  refine ft_ifS mi_k2 (decide ((i 3586) ≤ 0)) 51 7 [] rfl (fun c => ?_) (fun c => ?_)
  ·
    have c1 : (i 3586).toInt ≤ (0 : Int32).toInt := kd_le c; clear c
    exact ft_ret mi_k2 rfl (hP  _ _ _ _ hG trivial)
  ·
    have c2 : (0 : Int32).toInt < (i 3586).toInt := kd_leF c; clear c
    have s3 : ((i 3586) - 1).toInt = (i 3586).toInt - (1 : Int32).toInt := kd_sub (oz1040 c2 kn0 kn1) (oz342 fi_3586.2 kn1)
    have hJ4 := kG_i hG 3586 rfl (v := ((i 3586) - 1)) ⟨(oz1041 c2 s3 kn0 kn1), (oz1047_m fi_3586.2 s3 kn1)⟩
    first | refine fo_goI mi_k2 fz2_7_14_31 [.int ((i 3586) - 1), .int 0, .ref 57, .int 1, .ref 57] (ku i 3586 ((i 3586) - 1)) (by rfl) ?_ | refine ft_go mi_k2 14 31 [(0, .ref 56)] [.int ((i 3586) - 1), .int 0, .ref 57, .int 1, .ref 57] (ku i 3586 ((i 3586) - 1)) a q r (by rfl) ?_
    refine ko_copyI3 mi_k2.1 (n := 5) (c := 5) (m := 5) (b := 5) (mi_k2.2 _ _ (by rfl)) (by rfl) (by rfl) (by rfl) (ksG57 _ _ _ _) (ksG57 _ _ _ _) (ksA57 _ _ _ _) (hJ4.I.2.1 57) rfl (hJ4.I.2.1 57) rfl (oz1041 c2 s3 kn0 kn1) (oz246 kn1) (oz46 kn0) (oz1048_m fi_3586.2 s3 kn1) (oz1049_m fi_3586.2 s3 kn1 kn0) ?_
    intro a6 ea6 fa6
    have hJ6 := kG_al3 hJ4 57 rfl ea6 fa6 (kcpy_len2 (n := 5) (c := 5) (m := 5) (b := 5) (sp := 1) (dp := 0) (n1 := ((i 3586) - 1)) (hJ4.I.2.1 57) rfl (hJ4.I.2.1 57) rfl (oz1041 c2 s3 kn0 kn1) (oz246 kn1) (oz46 kn0) (oz1048_m fi_3586.2 s3 kn1) (oz1049_m fi_3586.2 s3 kn1 kn0)) (fun _ => kd_bd _)
    refine fo_goS mi_k2 fz2_34_8_48 [.int ((i 3586) - 1), .int 0, .ref 58, .int 1, .ref 58] rfl ?_
    refine ko_copyI3 mi_k2.1 (n := 5) (c := 5) (m := 5) (b := 5) (mi_k2.2 _ _ (by rfl)) (by rfl) (by rfl) (by rfl) (ksG58 _ _ _ _) (ksG58 _ _ _ _) (ksA58 _ _ _ _) (hJ6.I.2.1 58) rfl (hJ6.I.2.1 58) rfl (oz1041 c2 s3 kn0 kn1) (oz246 kn1) (oz46 kn0) (oz1048_m fi_3586.2 s3 kn1) (oz1049_m fi_3586.2 s3 kn1 kn0) ?_
    intro a8 ea8 fa8
    have hJ8 := kG_al3 hJ6 58 rfl ea8 fa8 (kcpy_len2 (n := 5) (c := 5) (m := 5) (b := 5) (sp := 1) (dp := 0) (n1 := ((i 3586) - 1)) (hJ6.I.2.1 58) rfl (hJ6.I.2.1 58) rfl (oz1041 c2 s3 kn0 kn1) (oz246 kn1) (oz46 kn0) (oz1048_m fi_3586.2 s3 kn1) (oz1049_m fi_3586.2 s3 kn1 kn0)) (fun _ => kd_bd _)
    exact ft_ret mi_k2 rfl (hP  _ _ _ _ hJ8 trivial)
def w30_50_m : kW := ([3214, 3215, 3586], [51, 57, 58, 63, 65, 66, 67, 68, 69, 70, 71, 72], [], [])
set_option maxRecDepth 100000 in
theorem kc30_50_m {i : Nat → Int32} {a : Nat → List Int32} {q : Nat → List Int64} {r : Nat → Nat} (hI : kI i a q) (hr : kr r) (x1 : Int32) (hp0 : ((0 : Int) ≤ x1.toInt) ∧ (x1.toInt ≤ 7)) : km 3 30 [.ref 50, .int x1] (ks i a q r) (kVN w30_50_m i a q r (fun i1 a1 q1 r1 => True)) := by
  have hG := kG_self w30_50_m hI hr
  refine km_ofN (q := (mi_h30, mi_c30)) rfl (by decide) (Nat.le_of_ble_eq_true rfl) ?_
  intro P hP
  refine fo_goL mi_k30 fz30_0_4_8 [(0, .ref 50), (1, .int x1)] [.int 0, .ref 57] rfl ?_
  refine ko_iald3 mi_k30.1 (n := 5) (c := 5) (ax := (0, 0, 0, 0, 0)) (mi_k30.2 _ _ (by rfl)) (by rfl) (ksG57 _ _ _ _) (hG.I.2.1 57) rfl (oz46 kn0) (oz547 kn0) ?_
  refine fo_goL mi_k30 fz30_9_5_18 [(2, .int ((a 57).getD (0 : Int32).toNatClampNeg 0)), (0, .ref 50), (1, .int x1)] [.int 0, .ref 58] rfl ?_
  refine ko_iald3 mi_k30.1 (n := 5) (c := 5) (ax := (0, 0, 0, 0, 0)) (mi_k30.2 _ _ (by rfl)) (by rfl) (ksG58 _ _ _ _) (hG.I.2.1 58) rfl (oz46 kn0) (oz547 kn0) ?_
  refine fo_goL mi_k30 fz30_19_3_24 [(3, .int ((a 58).getD (0 : Int32).toNatClampNeg 0)), (2, .int ((a 57).getD (0 : Int32).toNatClampNeg 0)), (0, .ref 50), (1, .int x1)] [.ref 56] rfl ?_
  refine ko_callN mi_k30.1 (pc := 24) (ls := [(3, .int ((a 58).getD (0 : Int32).toNatClampNeg 0)), (2, .int ((a 57).getD (0 : Int32).toNatClampNeg 0)), (0, .ref 50), (1, .int x1)]) (st := [.ref 56]) (h := ks i a q r) (i := (.invokevirtual 114, 3, 2, 0, 9, 0, 222)) (mi_k30.2 _ _ (by rfl)) (ft_invS mi_pq2 (by rfl)) (cy := mi_c2) mi_pq2 rfl (kc2_56_m hG.I hG.R ) (by decide) ?_
  intro ig1 ag1 qg1 rg1 kg1 hg1
  have hGg1 := kG_call hG kg1 (by decide +kernel)
  refine fo_goS mi_k30 fz30_27_3_33 [.int 8, .int (ig1 3214)] rfl ?_
  refine ft_ifS mi_k30 ((ig1 3214) != 8) 41 36 [] rfl (fun c => ?_) (fun c => ?_)
  ·
    have c2 : (ig1 3214).toInt ≠ (8 : Int32).toInt := kd_ne c; clear c
    refine fo_goS mi_k30 fz30_41_2_43 [.int x1, .int ((a 57).getD (0 : Int32).toNatClampNeg 0)] rfl ?_
    refine ft_ifS mi_k30 (((a 57).getD (0 : Int32).toNatClampNeg 0) == x1) 54 46 [] rfl (fun c => ?_) (fun c => ?_)
    ·
      have c3 : ((a 57).getD (0 : Int32).toNatClampNeg 0).toInt = x1.toInt := kd_eq c; clear c
      exact ft_ret mi_k30 rfl (hP  _ _ _ _ hGg1 trivial)
    ·
      have c4 : ((a 57).getD (0 : Int32).toNatClampNeg 0).toInt ≠ x1.toInt := kd_eqF c; clear c
      refine fo_goS mi_k30 fz30_46_2_48 [.int ((a 57).getD (0 : Int32).toNatClampNeg 0), .ref 50] rfl ?_
      refine ko_callPI mi_k30.1 (pc := 48) (ls := [(3, .int ((a 58).getD (0 : Int32).toNatClampNeg 0)), (2, .int ((a 57).getD (0 : Int32).toNatClampNeg 0)), (0, .ref 50), (1, .int x1)]) (st := [.int ((a 57).getD (0 : Int32).toNatClampNeg 0), .ref 50]) (h := ks ig1 ag1 qg1 rg1) (i := (.invokevirtual 85, 3, 24, 0, 9, 0, 165)) (mi_k30.2 _ _ (by rfl)) (ft_invS mi_pq24 (by rfl)) (cy := mi_c24) mi_pq24 rfl (kc24_50 hGg1.I hGg1.R ((a 57).getD (0 : Int32).toNatClampNeg 0)) (by decide) ?_
      intro vg5 hg5
      rcases hg5 with ⟨eg5, hg5⟩ | ⟨eg5, hg5⟩
      ·
        subst eg5
        have fig1_3200 : ((0 : Int) ≤ (ig1 3200).toInt) ∧ ((ig1 3200).toInt ≤ 8) := hGg1.I.1 3200
        have z6 : ((0 : Int) ≤ ((a 57).getD (0 : Int32).toNatClampNeg 0).toInt) ∧ (((a 57).getD (0 : Int32).toNatClampNeg 0).toInt < (ig1 3200).toInt) := hg5
        first | refine fo_goS mi_k30 fz30_51_5_61 [.int ((a 57).getD (0 : Int32).toNatClampNeg 0), .ref 51, .int ((a 58).getD (0 : Int32).toNatClampNeg 0)] (by rfl) ?_ | refine ft_goS mi_k30 5 61 [.int ((a 57).getD (0 : Int32).toNatClampNeg 0), .ref 51, .int ((a 58).getD (0 : Int32).toNatClampNeg 0)] (by rfl) ?_ | refine ft_go mi_k30 5 61 [(3, .int ((a 58).getD (0 : Int32).toNatClampNeg 0)), (2, .int ((a 57).getD (0 : Int32).toNatClampNeg 0)), (0, .ref 50), (1, .int x1)] [.int ((a 57).getD (0 : Int32).toNatClampNeg 0), .ref 51, .int ((a 58).getD (0 : Int32).toNatClampNeg 0)] ig1 ag1 qg1 rg1 (by rfl) ?_ | refine ko_steps mi_in30 5 _ (61, [(3, .int ((a 58).getD (0 : Int32).toNatClampNeg 0)), (2, .int ((a 57).getD (0 : Int32).toNatClampNeg 0)), (0, .ref 50), (1, .int x1)], [.int ((a 57).getD (0 : Int32).toNatClampNeg 0), .ref 51, .int ((a 58).getD (0 : Int32).toNatClampNeg 0)], (0, 0), ks ig1 ag1 qg1 rg1) (by rfl) ?_
        refine ko_iald3 mi_k30.1 (n := 8) (c := 8) (ax := (0, 0, 0, 0, 0)) (mi_k30.2 _ _ (by rfl)) (by rfl) (ksG51 _ _ _ _) (hGg1.I.2.1 51) rfl (oz3 z6.1) (oz974 fig1_3200.2 z6.2) ?_
        have m8 : (((bif decide (((ag1 51).getD ((a 57).getD (0 : Int32).toNatClampNeg 0).toNatClampNeg 0) < ((a 58).getD (0 : Int32).toNatClampNeg 0)) then ((ag1 51).getD ((a 57).getD (0 : Int32).toNatClampNeg 0).toNatClampNeg 0) else ((a 58).getD (0 : Int32).toNatClampNeg 0)).toInt ≤ ((a 58).getD (0 : Int32).toNatClampNeg 0).toInt) ∧ ((bif decide (((ag1 51).getD ((a 57).getD (0 : Int32).toNatClampNeg 0).toNatClampNeg 0) < ((a 58).getD (0 : Int32).toNatClampNeg 0)) then ((ag1 51).getD ((a 57).getD (0 : Int32).toNatClampNeg 0).toNatClampNeg 0) else ((a 58).getD (0 : Int32).toNatClampNeg 0)).toInt ≤ ((ag1 51).getD ((a 57).getD (0 : Int32).toNatClampNeg 0).toNatClampNeg 0).toInt)) ∧ ((bif decide (((ag1 51).getD ((a 57).getD (0 : Int32).toNatClampNeg 0).toNatClampNeg 0) < ((a 58).getD (0 : Int32).toNatClampNeg 0)) then ((ag1 51).getD ((a 57).getD (0 : Int32).toNatClampNeg 0).toNatClampNeg 0) else ((a 58).getD (0 : Int32).toNatClampNeg 0)).toInt = ((a 58).getD (0 : Int32).toNatClampNeg 0).toInt ∨ (bif decide (((ag1 51).getD ((a 57).getD (0 : Int32).toNatClampNeg 0).toNatClampNeg 0) < ((a 58).getD (0 : Int32).toNatClampNeg 0)) then ((ag1 51).getD ((a 57).getD (0 : Int32).toNatClampNeg 0).toNatClampNeg 0) else ((a 58).getD (0 : Int32).toNatClampNeg 0)).toInt = ((ag1 51).getD ((a 57).getD (0 : Int32).toNatClampNeg 0).toNatClampNeg 0).toInt) := kd_min
        first | refine ft_goS mi_k30 1 65 [.int (bif decide (((ag1 51).getD ((a 57).getD (0 : Int32).toNatClampNeg 0).toNatClampNeg 0) < ((a 58).getD (0 : Int32).toNatClampNeg 0)) then ((ag1 51).getD ((a 57).getD (0 : Int32).toNatClampNeg 0).toNatClampNeg 0) else ((a 58).getD (0 : Int32).toNatClampNeg 0))] (by rfl) ?_ | refine ft_go mi_k30 1 65 [(3, .int ((a 58).getD (0 : Int32).toNatClampNeg 0)), (2, .int ((a 57).getD (0 : Int32).toNatClampNeg 0)), (0, .ref 50), (1, .int x1)] [.int (bif decide (((ag1 51).getD ((a 57).getD (0 : Int32).toNatClampNeg 0).toNatClampNeg 0) < ((a 58).getD (0 : Int32).toNatClampNeg 0)) then ((ag1 51).getD ((a 57).getD (0 : Int32).toNatClampNeg 0).toNatClampNeg 0) else ((a 58).getD (0 : Int32).toNatClampNeg 0))] ig1 ag1 qg1 rg1 (by rfl) ?_ | refine ko_steps mi_in30 1 _ (65, [(3, .int ((a 58).getD (0 : Int32).toNatClampNeg 0)), (2, .int ((a 57).getD (0 : Int32).toNatClampNeg 0)), (0, .ref 50), (1, .int x1)], [.int (bif decide (((ag1 51).getD ((a 57).getD (0 : Int32).toNatClampNeg 0).toNatClampNeg 0) < ((a 58).getD (0 : Int32).toNatClampNeg 0)) then ((ag1 51).getD ((a 57).getD (0 : Int32).toNatClampNeg 0).toNatClampNeg 0) else ((a 58).getD (0 : Int32).toNatClampNeg 0))], (0, 0), ks ig1 ag1 qg1 rg1) (by rfl) ?_
        generalize (bif decide (((ag1 51).getD ((a 57).getD (0 : Int32).toNatClampNeg 0).toNatClampNeg 0) < ((a 58).getD (0 : Int32).toNatClampNeg 0)) then ((ag1 51).getD ((a 57).getD (0 : Int32).toNatClampNeg 0).toNatClampNeg 0) else ((a 58).getD (0 : Int32).toNatClampNeg 0)) = m7 at m8 ⊢
        refine fo_goL mi_k30 fz30_65_5_73 [(4, .int m7), (3, .int ((a 58).getD (0 : Int32).toNatClampNeg 0)), (2, .int ((a 57).getD (0 : Int32).toNatClampNeg 0)), (0, .ref 50), (1, .int x1)] [.int ((a 57).getD (0 : Int32).toNatClampNeg 0), .ref 51, .int ((a 57).getD (0 : Int32).toNatClampNeg 0), .ref 51] rfl ?_
        refine ko_iald3 mi_k30.1 (n := 8) (c := 8) (ax := (0, 0, 0, 0, 0)) (mi_k30.2 _ _ (by rfl)) (by rfl) (ksG51 _ _ _ _) (hGg1.I.2.1 51) rfl (oz3 z6.1) (oz974 fig1_3200.2 z6.2) ?_
        have b9 : ((-2147483648 : Int) ≤ ((ag1 51).getD ((a 57).getD (0 : Int32).toNatClampNeg 0).toNatClampNeg 0).toInt) ∧ (((ag1 51).getD ((a 57).getD (0 : Int32).toNatClampNeg 0).toNatClampNeg 0).toInt ≤ 2147483647) := kd_bd ((ag1 51).getD ((a 57).getD (0 : Int32).toNatClampNeg 0).toNatClampNeg 0)
        have b10 : ((-2147483648 : Int) ≤ m7.toInt) ∧ (m7.toInt ≤ 2147483647) := kd_bd m7
        refine fo_goS mi_k30 fz30_74_2_77 [.int (((ag1 51).getD ((a 57).getD (0 : Int32).toNatClampNeg 0).toNatClampNeg 0) - m7), .int ((a 57).getD (0 : Int32).toNatClampNeg 0), .ref 51] rfl ?_
        refine ko_iast3 mi_k30.1 (n := 8) (c := 8) (ax := (0, 0, 0, 0, 0)) (mi_k30.2 _ _ (by rfl)) (by rfl) (ksG51 _ _ _ _) (ksA51 _ _ _ _) (hGg1.I.2.1 51) rfl (oz3 z6.1) (oz974 fig1_3200.2 z6.2) ?_
        intro a11 ea11 fa11
        have hJ11 := kG_a3 hGg1 51 rfl ea11 fa11 (kd_bd _)
        refine fo_goS mi_k30 fz30_78_7_91 [.int x1, .ref 51, .int 999, .int x1, .ref 51] rfl ?_
        refine ko_iald3 mi_k30.1 (n := 8) (c := 8) (ax := (0, 0, 0, 0, 0)) (mi_k30.2 _ _ (by rfl)) (by rfl) (ksG51 _ _ _ _) (hJ11.I.2.1 51) rfl (oz3 hp0.1) (oz1032 hp0.2) ?_
        have b12 : ((-2147483648 : Int) ≤ ((a11 51).getD x1.toNatClampNeg 0).toInt) ∧ (((a11 51).getD x1.toNatClampNeg 0).toInt ≤ 2147483647) := kd_bd ((a11 51).getD x1.toNatClampNeg 0)
        refine fo_goS mi_k30 fz30_92_2_95 [.int (((a11 51).getD x1.toNatClampNeg 0) + m7), .int 999, .int x1, .ref 51] rfl ?_
        have m14 : (((bif decide ((((a11 51).getD x1.toNatClampNeg 0) + m7) < 999) then (((a11 51).getD x1.toNatClampNeg 0) + m7) else 999).toInt ≤ (999 : Int32).toInt) ∧ ((bif decide ((((a11 51).getD x1.toNatClampNeg 0) + m7) < 999) then (((a11 51).getD x1.toNatClampNeg 0) + m7) else 999).toInt ≤ (((a11 51).getD x1.toNatClampNeg 0) + m7).toInt)) ∧ ((bif decide ((((a11 51).getD x1.toNatClampNeg 0) + m7) < 999) then (((a11 51).getD x1.toNatClampNeg 0) + m7) else 999).toInt = (999 : Int32).toInt ∨ (bif decide ((((a11 51).getD x1.toNatClampNeg 0) + m7) < 999) then (((a11 51).getD x1.toNatClampNeg 0) + m7) else 999).toInt = (((a11 51).getD x1.toNatClampNeg 0) + m7).toInt) := kd_min
        first | refine ft_goS mi_k30 1 98 [.int (bif decide ((((a11 51).getD x1.toNatClampNeg 0) + m7) < 999) then (((a11 51).getD x1.toNatClampNeg 0) + m7) else 999), .int x1, .ref 51] (by rfl) ?_ | refine ft_go mi_k30 1 98 [(4, .int m7), (3, .int ((a 58).getD (0 : Int32).toNatClampNeg 0)), (2, .int ((a 57).getD (0 : Int32).toNatClampNeg 0)), (0, .ref 50), (1, .int x1)] [.int (bif decide ((((a11 51).getD x1.toNatClampNeg 0) + m7) < 999) then (((a11 51).getD x1.toNatClampNeg 0) + m7) else 999), .int x1, .ref 51] ig1 a11 qg1 rg1 (by rfl) ?_ | refine ko_steps mi_in30 1 _ (98, [(4, .int m7), (3, .int ((a 58).getD (0 : Int32).toNatClampNeg 0)), (2, .int ((a 57).getD (0 : Int32).toNatClampNeg 0)), (0, .ref 50), (1, .int x1)], [.int (bif decide ((((a11 51).getD x1.toNatClampNeg 0) + m7) < 999) then (((a11 51).getD x1.toNatClampNeg 0) + m7) else 999), .int x1, .ref 51], (0, 0), ks ig1 a11 qg1 rg1) (by rfl) ?_
        generalize (bif decide ((((a11 51).getD x1.toNatClampNeg 0) + m7) < 999) then (((a11 51).getD x1.toNatClampNeg 0) + m7) else 999) = m13 at m14 ⊢
        refine ko_iast3 mi_k30.1 (n := 8) (c := 8) (ax := (0, 0, 0, 0, 0)) (mi_k30.2 _ _ (by rfl)) (by rfl) (ksG51 _ _ _ _) (ksA51 _ _ _ _) (hJ11.I.2.1 51) rfl (oz3 hp0.1) (oz1032 hp0.2) ?_
        intro a15 ea15 fa15
        have hJ15 := kG_a3 hJ11 51 rfl ea15 fa15 (kd_bd _)
        have b16 : ((-2147483648 : Int) ≤ (ig1 3215).toInt) ∧ ((ig1 3215).toInt ≤ 2147483647) := kd_bd (ig1 3215)
        have hJ17 := kG_i hJ15 3215 rfl (v := ((ig1 3215) + m7)) (kd_bd _)
        first | refine fo_goI mi_k30 fz30_99_10_116 [.int 2, .ref 63, .int 2, .ref 63] (ku ig1 3215 ((ig1 3215) + m7)) (by rfl) ?_ | refine ft_go mi_k30 10 116 [(4, .int m7), (3, .int ((a 58).getD (0 : Int32).toNatClampNeg 0)), (2, .int ((a 57).getD (0 : Int32).toNatClampNeg 0)), (0, .ref 50), (1, .int x1)] [.int 2, .ref 63, .int 2, .ref 63] (ku ig1 3215 ((ig1 3215) + m7)) a15 qg1 rg1 (by rfl) ?_ | refine ko_steps mi_in30 10 _ (116, [(4, .int m7), (3, .int ((a 58).getD (0 : Int32).toNatClampNeg 0)), (2, .int ((a 57).getD (0 : Int32).toNatClampNeg 0)), (0, .ref 50), (1, .int x1)], [.int 2, .ref 63, .int 2, .ref 63], (0, 0), ks (ku ig1 3215 ((ig1 3215) + m7)) a15 qg1 rg1) (by rfl) ?_
        refine ko_iald3 mi_k30.1 (n := 5) (c := 5) (ax := (0, 0, 0, 0, 0)) (mi_k30.2 _ _ (by rfl)) (by rfl) (ksG63 _ _ _ _) (hJ17.I.2.1 63) rfl (oz256 kn2) (oz549 kn2) ?_
        have b18 : ((-2147483648 : Int) ≤ ((a 58).getD (0 : Int32).toNatClampNeg 0).toInt) ∧ (((a 58).getD (0 : Int32).toNatClampNeg 0).toInt ≤ 2147483647) := kd_bd ((a 58).getD (0 : Int32).toNatClampNeg 0)
        have b19 : ((-2147483648 : Int) ≤ ((a15 63).getD (2 : Int32).toNatClampNeg 0).toInt) ∧ (((a15 63).getD (2 : Int32).toNatClampNeg 0).toInt ≤ 2147483647) := kd_bd ((a15 63).getD (2 : Int32).toNatClampNeg 0)
        have b20 : ((-2147483648 : Int) ≤ (((a 58).getD (0 : Int32).toNatClampNeg 0) - m7).toInt) ∧ ((((a 58).getD (0 : Int32).toNatClampNeg 0) - m7).toInt ≤ 2147483647) := kd_bd (((a 58).getD (0 : Int32).toNatClampNeg 0) - m7)
        refine fo_goS mi_k30 fz30_117_4_122 [.int (((a15 63).getD (2 : Int32).toNatClampNeg 0) + (((a 58).getD (0 : Int32).toNatClampNeg 0) - m7)), .int 2, .ref 63] rfl ?_
        refine ko_iast3 mi_k30.1 (n := 5) (c := 5) (ax := (0, 0, 0, 0, 0)) (mi_k30.2 _ _ (by rfl)) (by rfl) (ksG63 _ _ _ _) (ksA63 _ _ _ _) (hJ17.I.2.1 63) rfl (oz256 kn2) (oz549 kn2) ?_
        intro a21 ea21 fa21
        have hJ21 := kG_a3 hJ17 63 rfl ea21 fa21 (kd_bd _)
        refine fo_goS mi_k30 fz30_123_3_128 [.int ((a 57).getD (0 : Int32).toNatClampNeg 0), .ref 64] rfl ?_
        by_cases w22 : ((a 57).getD (0 : Int32).toNatClampNeg 0).toInt = 0
        ·
          refine ft_alx mi_k30 (pc := 128) (v := 0) (p := 64) (z := 65) (kj_eq w22 (by decide) : ((a 57).getD (0 : Int32).toNatClampNeg 0) = 0) (by decide +kernel) (by decide +kernel) ?_
          refine fo_goS mi_k30 fz30_129_2_131 [.int x1, .ref 65, .int x1, .ref 65] rfl ?_
          refine ko_iald3 mi_k30.1 (n := 8) (c := 8) (ax := (0, 0, 0, 0, 0)) (mi_k30.2 _ _ (by rfl)) (by rfl) (ksG65 _ _ _ _) (hJ21.I.2.1 65) rfl (oz3 hp0.1) (oz1032 hp0.2) ?_
          have b23 : ((-2147483648 : Int) ≤ ((a21 65).getD x1.toNatClampNeg 0).toInt) ∧ (((a21 65).getD x1.toNatClampNeg 0).toInt ≤ 2147483647) := kd_bd ((a21 65).getD x1.toNatClampNeg 0)
          refine fo_goS mi_k30 fz30_132_2_135 [.int (((a21 65).getD x1.toNatClampNeg 0) + m7), .int x1, .ref 65] rfl ?_
          refine ko_iast3 mi_k30.1 (n := 8) (c := 8) (ax := (0, 0, 0, 0, 0)) (mi_k30.2 _ _ (by rfl)) (by rfl) (ksG65 _ _ _ _) (ksA65 _ _ _ _) (hJ21.I.2.1 65) rfl (oz3 hp0.1) (oz1032 hp0.2) ?_
          intro a24 ea24 fa24
          have hJ24 := kG_a3 hJ21 65 rfl ea24 fa24 (kd_bd _)
          exact ft_ret mi_k30 rfl (hP  _ _ _ _ hJ24 trivial)
        by_cases w25 : ((a 57).getD (0 : Int32).toNatClampNeg 0).toInt = 1
        ·
          refine ft_alx mi_k30 (pc := 128) (v := 1) (p := 64) (z := 66) (kj_eq w25 (by decide) : ((a 57).getD (0 : Int32).toNatClampNeg 0) = 1) (by decide +kernel) (by decide +kernel) ?_
          refine fo_goS mi_k30 fz30_129_2_131 [.int x1, .ref 66, .int x1, .ref 66] rfl ?_
          refine ko_iald3 mi_k30.1 (n := 8) (c := 8) (ax := (0, 0, 0, 0, 0)) (mi_k30.2 _ _ (by rfl)) (by rfl) (ksG66 _ _ _ _) (hJ21.I.2.1 66) rfl (oz3 hp0.1) (oz1032 hp0.2) ?_
          have b26 : ((-2147483648 : Int) ≤ ((a21 66).getD x1.toNatClampNeg 0).toInt) ∧ (((a21 66).getD x1.toNatClampNeg 0).toInt ≤ 2147483647) := kd_bd ((a21 66).getD x1.toNatClampNeg 0)
          refine fo_goS mi_k30 fz30_132_2_135 [.int (((a21 66).getD x1.toNatClampNeg 0) + m7), .int x1, .ref 66] rfl ?_
          refine ko_iast3 mi_k30.1 (n := 8) (c := 8) (ax := (0, 0, 0, 0, 0)) (mi_k30.2 _ _ (by rfl)) (by rfl) (ksG66 _ _ _ _) (ksA66 _ _ _ _) (hJ21.I.2.1 66) rfl (oz3 hp0.1) (oz1032 hp0.2) ?_
          intro a27 ea27 fa27
          have hJ27 := kG_a3 hJ21 66 rfl ea27 fa27 (kd_bd _)
          exact ft_ret mi_k30 rfl (hP  _ _ _ _ hJ27 trivial)
        by_cases w28 : ((a 57).getD (0 : Int32).toNatClampNeg 0).toInt = 2
        ·
          refine ft_alx mi_k30 (pc := 128) (v := 2) (p := 64) (z := 67) (kj_eq w28 (by decide) : ((a 57).getD (0 : Int32).toNatClampNeg 0) = 2) (by decide +kernel) (by decide +kernel) ?_
          refine fo_goS mi_k30 fz30_129_2_131 [.int x1, .ref 67, .int x1, .ref 67] rfl ?_
          refine ko_iald3 mi_k30.1 (n := 8) (c := 8) (ax := (0, 0, 0, 0, 0)) (mi_k30.2 _ _ (by rfl)) (by rfl) (ksG67 _ _ _ _) (hJ21.I.2.1 67) rfl (oz3 hp0.1) (oz1032 hp0.2) ?_
          have b29 : ((-2147483648 : Int) ≤ ((a21 67).getD x1.toNatClampNeg 0).toInt) ∧ (((a21 67).getD x1.toNatClampNeg 0).toInt ≤ 2147483647) := kd_bd ((a21 67).getD x1.toNatClampNeg 0)
          refine fo_goS mi_k30 fz30_132_2_135 [.int (((a21 67).getD x1.toNatClampNeg 0) + m7), .int x1, .ref 67] rfl ?_
          refine ko_iast3 mi_k30.1 (n := 8) (c := 8) (ax := (0, 0, 0, 0, 0)) (mi_k30.2 _ _ (by rfl)) (by rfl) (ksG67 _ _ _ _) (ksA67 _ _ _ _) (hJ21.I.2.1 67) rfl (oz3 hp0.1) (oz1032 hp0.2) ?_
          intro a30 ea30 fa30
          have hJ30 := kG_a3 hJ21 67 rfl ea30 fa30 (kd_bd _)
          exact ft_ret mi_k30 rfl (hP  _ _ _ _ hJ30 trivial)
        by_cases w31 : ((a 57).getD (0 : Int32).toNatClampNeg 0).toInt = 3
        ·
          refine ft_alx mi_k30 (pc := 128) (v := 3) (p := 64) (z := 68) (kj_eq w31 (by decide) : ((a 57).getD (0 : Int32).toNatClampNeg 0) = 3) (by decide +kernel) (by decide +kernel) ?_
          refine fo_goS mi_k30 fz30_129_2_131 [.int x1, .ref 68, .int x1, .ref 68] rfl ?_
          refine ko_iald3 mi_k30.1 (n := 8) (c := 8) (ax := (0, 0, 0, 0, 0)) (mi_k30.2 _ _ (by rfl)) (by rfl) (ksG68 _ _ _ _) (hJ21.I.2.1 68) rfl (oz3 hp0.1) (oz1032 hp0.2) ?_
          have b32 : ((-2147483648 : Int) ≤ ((a21 68).getD x1.toNatClampNeg 0).toInt) ∧ (((a21 68).getD x1.toNatClampNeg 0).toInt ≤ 2147483647) := kd_bd ((a21 68).getD x1.toNatClampNeg 0)
          refine fo_goS mi_k30 fz30_132_2_135 [.int (((a21 68).getD x1.toNatClampNeg 0) + m7), .int x1, .ref 68] rfl ?_
          refine ko_iast3 mi_k30.1 (n := 8) (c := 8) (ax := (0, 0, 0, 0, 0)) (mi_k30.2 _ _ (by rfl)) (by rfl) (ksG68 _ _ _ _) (ksA68 _ _ _ _) (hJ21.I.2.1 68) rfl (oz3 hp0.1) (oz1032 hp0.2) ?_
          intro a33 ea33 fa33
          have hJ33 := kG_a3 hJ21 68 rfl ea33 fa33 (kd_bd _)
          exact ft_ret mi_k30 rfl (hP  _ _ _ _ hJ33 trivial)
        by_cases w34 : ((a 57).getD (0 : Int32).toNatClampNeg 0).toInt = 4
        ·
          refine ft_alx mi_k30 (pc := 128) (v := 4) (p := 64) (z := 69) (kj_eq w34 (by decide) : ((a 57).getD (0 : Int32).toNatClampNeg 0) = 4) (by decide +kernel) (by decide +kernel) ?_
          refine fo_goS mi_k30 fz30_129_2_131 [.int x1, .ref 69, .int x1, .ref 69] rfl ?_
          refine ko_iald3 mi_k30.1 (n := 8) (c := 8) (ax := (0, 0, 0, 0, 0)) (mi_k30.2 _ _ (by rfl)) (by rfl) (ksG69 _ _ _ _) (hJ21.I.2.1 69) rfl (oz3 hp0.1) (oz1032 hp0.2) ?_
          have b35 : ((-2147483648 : Int) ≤ ((a21 69).getD x1.toNatClampNeg 0).toInt) ∧ (((a21 69).getD x1.toNatClampNeg 0).toInt ≤ 2147483647) := kd_bd ((a21 69).getD x1.toNatClampNeg 0)
          refine fo_goS mi_k30 fz30_132_2_135 [.int (((a21 69).getD x1.toNatClampNeg 0) + m7), .int x1, .ref 69] rfl ?_
          refine ko_iast3 mi_k30.1 (n := 8) (c := 8) (ax := (0, 0, 0, 0, 0)) (mi_k30.2 _ _ (by rfl)) (by rfl) (ksG69 _ _ _ _) (ksA69 _ _ _ _) (hJ21.I.2.1 69) rfl (oz3 hp0.1) (oz1032 hp0.2) ?_
          intro a36 ea36 fa36
          have hJ36 := kG_a3 hJ21 69 rfl ea36 fa36 (kd_bd _)
          exact ft_ret mi_k30 rfl (hP  _ _ _ _ hJ36 trivial)
        by_cases w37 : ((a 57).getD (0 : Int32).toNatClampNeg 0).toInt = 5
        ·
          refine ft_alx mi_k30 (pc := 128) (v := 5) (p := 64) (z := 70) (kj_eq w37 (by decide) : ((a 57).getD (0 : Int32).toNatClampNeg 0) = 5) (by decide +kernel) (by decide +kernel) ?_
          refine fo_goS mi_k30 fz30_129_2_131 [.int x1, .ref 70, .int x1, .ref 70] rfl ?_
          refine ko_iald3 mi_k30.1 (n := 8) (c := 8) (ax := (0, 0, 0, 0, 0)) (mi_k30.2 _ _ (by rfl)) (by rfl) (ksG70 _ _ _ _) (hJ21.I.2.1 70) rfl (oz3 hp0.1) (oz1032 hp0.2) ?_
          have b38 : ((-2147483648 : Int) ≤ ((a21 70).getD x1.toNatClampNeg 0).toInt) ∧ (((a21 70).getD x1.toNatClampNeg 0).toInt ≤ 2147483647) := kd_bd ((a21 70).getD x1.toNatClampNeg 0)
          refine fo_goS mi_k30 fz30_132_2_135 [.int (((a21 70).getD x1.toNatClampNeg 0) + m7), .int x1, .ref 70] rfl ?_
          refine ko_iast3 mi_k30.1 (n := 8) (c := 8) (ax := (0, 0, 0, 0, 0)) (mi_k30.2 _ _ (by rfl)) (by rfl) (ksG70 _ _ _ _) (ksA70 _ _ _ _) (hJ21.I.2.1 70) rfl (oz3 hp0.1) (oz1032 hp0.2) ?_
          intro a39 ea39 fa39
          have hJ39 := kG_a3 hJ21 70 rfl ea39 fa39 (kd_bd _)
          exact ft_ret mi_k30 rfl (hP  _ _ _ _ hJ39 trivial)
        by_cases w40 : ((a 57).getD (0 : Int32).toNatClampNeg 0).toInt = 6
        ·
          refine ft_alx mi_k30 (pc := 128) (v := 6) (p := 64) (z := 71) (kj_eq w40 (by decide) : ((a 57).getD (0 : Int32).toNatClampNeg 0) = 6) (by decide +kernel) (by decide +kernel) ?_
          refine fo_goS mi_k30 fz30_129_2_131 [.int x1, .ref 71, .int x1, .ref 71] rfl ?_
          refine ko_iald3 mi_k30.1 (n := 8) (c := 8) (ax := (0, 0, 0, 0, 0)) (mi_k30.2 _ _ (by rfl)) (by rfl) (ksG71 _ _ _ _) (hJ21.I.2.1 71) rfl (oz3 hp0.1) (oz1032 hp0.2) ?_
          have b41 : ((-2147483648 : Int) ≤ ((a21 71).getD x1.toNatClampNeg 0).toInt) ∧ (((a21 71).getD x1.toNatClampNeg 0).toInt ≤ 2147483647) := kd_bd ((a21 71).getD x1.toNatClampNeg 0)
          refine fo_goS mi_k30 fz30_132_2_135 [.int (((a21 71).getD x1.toNatClampNeg 0) + m7), .int x1, .ref 71] rfl ?_
          refine ko_iast3 mi_k30.1 (n := 8) (c := 8) (ax := (0, 0, 0, 0, 0)) (mi_k30.2 _ _ (by rfl)) (by rfl) (ksG71 _ _ _ _) (ksA71 _ _ _ _) (hJ21.I.2.1 71) rfl (oz3 hp0.1) (oz1032 hp0.2) ?_
          intro a42 ea42 fa42
          have hJ42 := kG_a3 hJ21 71 rfl ea42 fa42 (kd_bd _)
          exact ft_ret mi_k30 rfl (hP  _ _ _ _ hJ42 trivial)
        by_cases w43 : ((a 57).getD (0 : Int32).toNatClampNeg 0).toInt = 7
        ·
          refine ft_alx mi_k30 (pc := 128) (v := 7) (p := 64) (z := 72) (kj_eq w43 (by decide) : ((a 57).getD (0 : Int32).toNatClampNeg 0) = 7) (by decide +kernel) (by decide +kernel) ?_
          refine fo_goS mi_k30 fz30_129_2_131 [.int x1, .ref 72, .int x1, .ref 72] rfl ?_
          refine ko_iald3 mi_k30.1 (n := 8) (c := 8) (ax := (0, 0, 0, 0, 0)) (mi_k30.2 _ _ (by rfl)) (by rfl) (ksG72 _ _ _ _) (hJ21.I.2.1 72) rfl (oz3 hp0.1) (oz1032 hp0.2) ?_
          have b44 : ((-2147483648 : Int) ≤ ((a21 72).getD x1.toNatClampNeg 0).toInt) ∧ (((a21 72).getD x1.toNatClampNeg 0).toInt ≤ 2147483647) := kd_bd ((a21 72).getD x1.toNatClampNeg 0)
          refine fo_goS mi_k30 fz30_132_2_135 [.int (((a21 72).getD x1.toNatClampNeg 0) + m7), .int x1, .ref 72] rfl ?_
          refine ko_iast3 mi_k30.1 (n := 8) (c := 8) (ax := (0, 0, 0, 0, 0)) (mi_k30.2 _ _ (by rfl)) (by rfl) (ksG72 _ _ _ _) (ksA72 _ _ _ _) (hJ21.I.2.1 72) rfl (oz3 hp0.1) (oz1032 hp0.2) ?_
          intro a45 ea45 fa45
          have hJ45 := kG_a3 hJ21 72 rfl ea45 fa45 (kd_bd _)
          exact ft_ret mi_k30 rfl (hP  _ _ _ _ hJ45 trivial)
        exact (oz1051_m fig1_3200.2 w22 w25 w28 w31 w34 w37 w40 w43 z6.1 z6.2).elim
      ·
        subst eg5
        first | refine fo_goS mi_k30 fz30_51_1_54 [] (by rfl) ?_ | refine ft_goS mi_k30 1 54 [] (by rfl) ?_ | refine ft_go mi_k30 1 54 [(3, .int ((a 58).getD (0 : Int32).toNatClampNeg 0)), (2, .int ((a 57).getD (0 : Int32).toNatClampNeg 0)), (0, .ref 50), (1, .int x1)] [] ig1 ag1 qg1 rg1 (by rfl) ?_ | refine ko_steps mi_in30 1 _ (54, [(3, .int ((a 58).getD (0 : Int32).toNatClampNeg 0)), (2, .int ((a 57).getD (0 : Int32).toNatClampNeg 0)), (0, .ref 50), (1, .int x1)], [], (0, 0), ks ig1 ag1 qg1 rg1) (by rfl) ?_
        exact ft_ret mi_k30 rfl (hP  _ _ _ _ hGg1 trivial)
  ·
    have c47 : (ig1 3214).toInt = (8 : Int32).toInt := kd_neF c; clear c
    have hJ48 := kG_i hGg1 3214 rfl (v := ((a 57).getD (0 : Int32).toNatClampNeg 0)) (kd_bd _)
    first | refine fo_goI mi_k30 fz30_36_5_43 [.int x1, .int ((a 57).getD (0 : Int32).toNatClampNeg 0)] (ku ig1 3214 ((a 57).getD (0 : Int32).toNatClampNeg 0)) (by rfl) ?_ | refine ft_goS mi_k30 5 43 [.int x1, .int ((a 57).getD (0 : Int32).toNatClampNeg 0)] (by rfl) ?_ | refine ft_go mi_k30 5 43 [(3, .int ((a 58).getD (0 : Int32).toNatClampNeg 0)), (2, .int ((a 57).getD (0 : Int32).toNatClampNeg 0)), (0, .ref 50), (1, .int x1)] [.int x1, .int ((a 57).getD (0 : Int32).toNatClampNeg 0)] (ku ig1 3214 ((a 57).getD (0 : Int32).toNatClampNeg 0)) ag1 qg1 rg1 (by rfl) ?_ | refine ko_steps mi_in30 5 _ (43, [(3, .int ((a 58).getD (0 : Int32).toNatClampNeg 0)), (2, .int ((a 57).getD (0 : Int32).toNatClampNeg 0)), (0, .ref 50), (1, .int x1)], [.int x1, .int ((a 57).getD (0 : Int32).toNatClampNeg 0)], (0, 0), ks (ku ig1 3214 ((a 57).getD (0 : Int32).toNatClampNeg 0)) ag1 qg1 rg1) (by rfl) ?_
    refine ft_ifS mi_k30 (((a 57).getD (0 : Int32).toNatClampNeg 0) == x1) 54 46 [] rfl (fun c => ?_) (fun c => ?_)
    ·
      have c49 : ((a 57).getD (0 : Int32).toNatClampNeg 0).toInt = x1.toInt := kd_eq c; clear c
      exact ft_ret mi_k30 rfl (hP  _ _ _ _ hJ48 trivial)
    ·
      have c50 : ((a 57).getD (0 : Int32).toNatClampNeg 0).toInt ≠ x1.toInt := kd_eqF c; clear c
      refine fo_goS mi_k30 fz30_46_2_48 [.int ((a 57).getD (0 : Int32).toNatClampNeg 0), .ref 50] rfl ?_
      refine ko_callPI mi_k30.1 (pc := 48) (ls := [(3, .int ((a 58).getD (0 : Int32).toNatClampNeg 0)), (2, .int ((a 57).getD (0 : Int32).toNatClampNeg 0)), (0, .ref 50), (1, .int x1)]) (st := [.int ((a 57).getD (0 : Int32).toNatClampNeg 0), .ref 50]) (h := ks (ku ig1 3214 ((a 57).getD (0 : Int32).toNatClampNeg 0)) ag1 qg1 rg1) (i := (.invokevirtual 85, 3, 24, 0, 9, 0, 165)) (mi_k30.2 _ _ (by rfl)) (ft_invS mi_pq24 (by rfl)) (cy := mi_c24) mi_pq24 rfl (kc24_50 hJ48.I hJ48.R ((a 57).getD (0 : Int32).toNatClampNeg 0)) (by decide) ?_
      intro vg51 hg51
      rcases hg51 with ⟨eg51, hg51⟩ | ⟨eg51, hg51⟩
      ·
        subst eg51
        have fig1_3200 : ((0 : Int) ≤ (ig1 3200).toInt) ∧ ((ig1 3200).toInt ≤ 8) := hJ48.I.1 3200
        have z52 : ((0 : Int) ≤ ((a 57).getD (0 : Int32).toNatClampNeg 0).toInt) ∧ (((a 57).getD (0 : Int32).toNatClampNeg 0).toInt < (ig1 3200).toInt) := hg51
        first | refine fo_goS mi_k30 fz30_51_5_61 [.int ((a 57).getD (0 : Int32).toNatClampNeg 0), .ref 51, .int ((a 58).getD (0 : Int32).toNatClampNeg 0)] (by rfl) ?_ | refine ft_goS mi_k30 5 61 [.int ((a 57).getD (0 : Int32).toNatClampNeg 0), .ref 51, .int ((a 58).getD (0 : Int32).toNatClampNeg 0)] (by rfl) ?_ | refine ft_go mi_k30 5 61 [(3, .int ((a 58).getD (0 : Int32).toNatClampNeg 0)), (2, .int ((a 57).getD (0 : Int32).toNatClampNeg 0)), (0, .ref 50), (1, .int x1)] [.int ((a 57).getD (0 : Int32).toNatClampNeg 0), .ref 51, .int ((a 58).getD (0 : Int32).toNatClampNeg 0)] (ku ig1 3214 ((a 57).getD (0 : Int32).toNatClampNeg 0)) ag1 qg1 rg1 (by rfl) ?_ | refine ko_steps mi_in30 5 _ (61, [(3, .int ((a 58).getD (0 : Int32).toNatClampNeg 0)), (2, .int ((a 57).getD (0 : Int32).toNatClampNeg 0)), (0, .ref 50), (1, .int x1)], [.int ((a 57).getD (0 : Int32).toNatClampNeg 0), .ref 51, .int ((a 58).getD (0 : Int32).toNatClampNeg 0)], (0, 0), ks (ku ig1 3214 ((a 57).getD (0 : Int32).toNatClampNeg 0)) ag1 qg1 rg1) (by rfl) ?_
        refine ko_iald3 mi_k30.1 (n := 8) (c := 8) (ax := (0, 0, 0, 0, 0)) (mi_k30.2 _ _ (by rfl)) (by rfl) (ksG51 _ _ _ _) (hJ48.I.2.1 51) rfl (oz3 z52.1) (oz974 fig1_3200.2 z52.2) ?_
        have m54 : (((bif decide (((ag1 51).getD ((a 57).getD (0 : Int32).toNatClampNeg 0).toNatClampNeg 0) < ((a 58).getD (0 : Int32).toNatClampNeg 0)) then ((ag1 51).getD ((a 57).getD (0 : Int32).toNatClampNeg 0).toNatClampNeg 0) else ((a 58).getD (0 : Int32).toNatClampNeg 0)).toInt ≤ ((a 58).getD (0 : Int32).toNatClampNeg 0).toInt) ∧ ((bif decide (((ag1 51).getD ((a 57).getD (0 : Int32).toNatClampNeg 0).toNatClampNeg 0) < ((a 58).getD (0 : Int32).toNatClampNeg 0)) then ((ag1 51).getD ((a 57).getD (0 : Int32).toNatClampNeg 0).toNatClampNeg 0) else ((a 58).getD (0 : Int32).toNatClampNeg 0)).toInt ≤ ((ag1 51).getD ((a 57).getD (0 : Int32).toNatClampNeg 0).toNatClampNeg 0).toInt)) ∧ ((bif decide (((ag1 51).getD ((a 57).getD (0 : Int32).toNatClampNeg 0).toNatClampNeg 0) < ((a 58).getD (0 : Int32).toNatClampNeg 0)) then ((ag1 51).getD ((a 57).getD (0 : Int32).toNatClampNeg 0).toNatClampNeg 0) else ((a 58).getD (0 : Int32).toNatClampNeg 0)).toInt = ((a 58).getD (0 : Int32).toNatClampNeg 0).toInt ∨ (bif decide (((ag1 51).getD ((a 57).getD (0 : Int32).toNatClampNeg 0).toNatClampNeg 0) < ((a 58).getD (0 : Int32).toNatClampNeg 0)) then ((ag1 51).getD ((a 57).getD (0 : Int32).toNatClampNeg 0).toNatClampNeg 0) else ((a 58).getD (0 : Int32).toNatClampNeg 0)).toInt = ((ag1 51).getD ((a 57).getD (0 : Int32).toNatClampNeg 0).toNatClampNeg 0).toInt) := kd_min
        first | refine ft_goS mi_k30 1 65 [.int (bif decide (((ag1 51).getD ((a 57).getD (0 : Int32).toNatClampNeg 0).toNatClampNeg 0) < ((a 58).getD (0 : Int32).toNatClampNeg 0)) then ((ag1 51).getD ((a 57).getD (0 : Int32).toNatClampNeg 0).toNatClampNeg 0) else ((a 58).getD (0 : Int32).toNatClampNeg 0))] (by rfl) ?_ | refine ft_go mi_k30 1 65 [(3, .int ((a 58).getD (0 : Int32).toNatClampNeg 0)), (2, .int ((a 57).getD (0 : Int32).toNatClampNeg 0)), (0, .ref 50), (1, .int x1)] [.int (bif decide (((ag1 51).getD ((a 57).getD (0 : Int32).toNatClampNeg 0).toNatClampNeg 0) < ((a 58).getD (0 : Int32).toNatClampNeg 0)) then ((ag1 51).getD ((a 57).getD (0 : Int32).toNatClampNeg 0).toNatClampNeg 0) else ((a 58).getD (0 : Int32).toNatClampNeg 0))] (ku ig1 3214 ((a 57).getD (0 : Int32).toNatClampNeg 0)) ag1 qg1 rg1 (by rfl) ?_ | refine ko_steps mi_in30 1 _ (65, [(3, .int ((a 58).getD (0 : Int32).toNatClampNeg 0)), (2, .int ((a 57).getD (0 : Int32).toNatClampNeg 0)), (0, .ref 50), (1, .int x1)], [.int (bif decide (((ag1 51).getD ((a 57).getD (0 : Int32).toNatClampNeg 0).toNatClampNeg 0) < ((a 58).getD (0 : Int32).toNatClampNeg 0)) then ((ag1 51).getD ((a 57).getD (0 : Int32).toNatClampNeg 0).toNatClampNeg 0) else ((a 58).getD (0 : Int32).toNatClampNeg 0))], (0, 0), ks (ku ig1 3214 ((a 57).getD (0 : Int32).toNatClampNeg 0)) ag1 qg1 rg1) (by rfl) ?_
        generalize (bif decide (((ag1 51).getD ((a 57).getD (0 : Int32).toNatClampNeg 0).toNatClampNeg 0) < ((a 58).getD (0 : Int32).toNatClampNeg 0)) then ((ag1 51).getD ((a 57).getD (0 : Int32).toNatClampNeg 0).toNatClampNeg 0) else ((a 58).getD (0 : Int32).toNatClampNeg 0)) = m53 at m54 ⊢
        refine fo_goL mi_k30 fz30_65_5_73 [(4, .int m53), (3, .int ((a 58).getD (0 : Int32).toNatClampNeg 0)), (2, .int ((a 57).getD (0 : Int32).toNatClampNeg 0)), (0, .ref 50), (1, .int x1)] [.int ((a 57).getD (0 : Int32).toNatClampNeg 0), .ref 51, .int ((a 57).getD (0 : Int32).toNatClampNeg 0), .ref 51] rfl ?_
        refine ko_iald3 mi_k30.1 (n := 8) (c := 8) (ax := (0, 0, 0, 0, 0)) (mi_k30.2 _ _ (by rfl)) (by rfl) (ksG51 _ _ _ _) (hJ48.I.2.1 51) rfl (oz3 z52.1) (oz974 fig1_3200.2 z52.2) ?_
        have b55 : ((-2147483648 : Int) ≤ ((ag1 51).getD ((a 57).getD (0 : Int32).toNatClampNeg 0).toNatClampNeg 0).toInt) ∧ (((ag1 51).getD ((a 57).getD (0 : Int32).toNatClampNeg 0).toNatClampNeg 0).toInt ≤ 2147483647) := kd_bd ((ag1 51).getD ((a 57).getD (0 : Int32).toNatClampNeg 0).toNatClampNeg 0)
        have b56 : ((-2147483648 : Int) ≤ m53.toInt) ∧ (m53.toInt ≤ 2147483647) := kd_bd m53
        refine fo_goS mi_k30 fz30_74_2_77 [.int (((ag1 51).getD ((a 57).getD (0 : Int32).toNatClampNeg 0).toNatClampNeg 0) - m53), .int ((a 57).getD (0 : Int32).toNatClampNeg 0), .ref 51] rfl ?_
        refine ko_iast3 mi_k30.1 (n := 8) (c := 8) (ax := (0, 0, 0, 0, 0)) (mi_k30.2 _ _ (by rfl)) (by rfl) (ksG51 _ _ _ _) (ksA51 _ _ _ _) (hJ48.I.2.1 51) rfl (oz3 z52.1) (oz974 fig1_3200.2 z52.2) ?_
        intro a57 ea57 fa57
        have hJ57 := kG_a3 hJ48 51 rfl ea57 fa57 (kd_bd _)
        refine fo_goS mi_k30 fz30_78_7_91 [.int x1, .ref 51, .int 999, .int x1, .ref 51] rfl ?_
        refine ko_iald3 mi_k30.1 (n := 8) (c := 8) (ax := (0, 0, 0, 0, 0)) (mi_k30.2 _ _ (by rfl)) (by rfl) (ksG51 _ _ _ _) (hJ57.I.2.1 51) rfl (oz3 hp0.1) (oz1032 hp0.2) ?_
        have b58 : ((-2147483648 : Int) ≤ ((a57 51).getD x1.toNatClampNeg 0).toInt) ∧ (((a57 51).getD x1.toNatClampNeg 0).toInt ≤ 2147483647) := kd_bd ((a57 51).getD x1.toNatClampNeg 0)
        refine fo_goS mi_k30 fz30_92_2_95 [.int (((a57 51).getD x1.toNatClampNeg 0) + m53), .int 999, .int x1, .ref 51] rfl ?_
        have m60 : (((bif decide ((((a57 51).getD x1.toNatClampNeg 0) + m53) < 999) then (((a57 51).getD x1.toNatClampNeg 0) + m53) else 999).toInt ≤ (999 : Int32).toInt) ∧ ((bif decide ((((a57 51).getD x1.toNatClampNeg 0) + m53) < 999) then (((a57 51).getD x1.toNatClampNeg 0) + m53) else 999).toInt ≤ (((a57 51).getD x1.toNatClampNeg 0) + m53).toInt)) ∧ ((bif decide ((((a57 51).getD x1.toNatClampNeg 0) + m53) < 999) then (((a57 51).getD x1.toNatClampNeg 0) + m53) else 999).toInt = (999 : Int32).toInt ∨ (bif decide ((((a57 51).getD x1.toNatClampNeg 0) + m53) < 999) then (((a57 51).getD x1.toNatClampNeg 0) + m53) else 999).toInt = (((a57 51).getD x1.toNatClampNeg 0) + m53).toInt) := kd_min
        first | refine ft_goS mi_k30 1 98 [.int (bif decide ((((a57 51).getD x1.toNatClampNeg 0) + m53) < 999) then (((a57 51).getD x1.toNatClampNeg 0) + m53) else 999), .int x1, .ref 51] (by rfl) ?_ | refine ft_go mi_k30 1 98 [(4, .int m53), (3, .int ((a 58).getD (0 : Int32).toNatClampNeg 0)), (2, .int ((a 57).getD (0 : Int32).toNatClampNeg 0)), (0, .ref 50), (1, .int x1)] [.int (bif decide ((((a57 51).getD x1.toNatClampNeg 0) + m53) < 999) then (((a57 51).getD x1.toNatClampNeg 0) + m53) else 999), .int x1, .ref 51] (ku ig1 3214 ((a 57).getD (0 : Int32).toNatClampNeg 0)) a57 qg1 rg1 (by rfl) ?_ | refine ko_steps mi_in30 1 _ (98, [(4, .int m53), (3, .int ((a 58).getD (0 : Int32).toNatClampNeg 0)), (2, .int ((a 57).getD (0 : Int32).toNatClampNeg 0)), (0, .ref 50), (1, .int x1)], [.int (bif decide ((((a57 51).getD x1.toNatClampNeg 0) + m53) < 999) then (((a57 51).getD x1.toNatClampNeg 0) + m53) else 999), .int x1, .ref 51], (0, 0), ks (ku ig1 3214 ((a 57).getD (0 : Int32).toNatClampNeg 0)) a57 qg1 rg1) (by rfl) ?_
        generalize (bif decide ((((a57 51).getD x1.toNatClampNeg 0) + m53) < 999) then (((a57 51).getD x1.toNatClampNeg 0) + m53) else 999) = m59 at m60 ⊢
        refine ko_iast3 mi_k30.1 (n := 8) (c := 8) (ax := (0, 0, 0, 0, 0)) (mi_k30.2 _ _ (by rfl)) (by rfl) (ksG51 _ _ _ _) (ksA51 _ _ _ _) (hJ57.I.2.1 51) rfl (oz3 hp0.1) (oz1032 hp0.2) ?_
        intro a61 ea61 fa61
        have hJ61 := kG_a3 hJ57 51 rfl ea61 fa61 (kd_bd _)
        have b62 : ((-2147483648 : Int) ≤ (ig1 3215).toInt) ∧ ((ig1 3215).toInt ≤ 2147483647) := kd_bd (ig1 3215)
        have hJ63 := kG_i hJ61 3215 rfl (v := ((ig1 3215) + m53)) (kd_bd _)
        first | refine fo_goI mi_k30 fz30_99_10_116 [.int 2, .ref 63, .int 2, .ref 63] (ku (ku ig1 3214 ((a 57).getD (0 : Int32).toNatClampNeg 0)) 3215 ((ig1 3215) + m53)) (by rfl) ?_ | refine ft_go mi_k30 10 116 [(4, .int m53), (3, .int ((a 58).getD (0 : Int32).toNatClampNeg 0)), (2, .int ((a 57).getD (0 : Int32).toNatClampNeg 0)), (0, .ref 50), (1, .int x1)] [.int 2, .ref 63, .int 2, .ref 63] (ku (ku ig1 3214 ((a 57).getD (0 : Int32).toNatClampNeg 0)) 3215 ((ig1 3215) + m53)) a61 qg1 rg1 (by rfl) ?_ | refine ko_steps mi_in30 10 _ (116, [(4, .int m53), (3, .int ((a 58).getD (0 : Int32).toNatClampNeg 0)), (2, .int ((a 57).getD (0 : Int32).toNatClampNeg 0)), (0, .ref 50), (1, .int x1)], [.int 2, .ref 63, .int 2, .ref 63], (0, 0), ks (ku (ku ig1 3214 ((a 57).getD (0 : Int32).toNatClampNeg 0)) 3215 ((ig1 3215) + m53)) a61 qg1 rg1) (by rfl) ?_
        refine ko_iald3 mi_k30.1 (n := 5) (c := 5) (ax := (0, 0, 0, 0, 0)) (mi_k30.2 _ _ (by rfl)) (by rfl) (ksG63 _ _ _ _) (hJ63.I.2.1 63) rfl (oz256 kn2) (oz549 kn2) ?_
        have b64 : ((-2147483648 : Int) ≤ ((a 58).getD (0 : Int32).toNatClampNeg 0).toInt) ∧ (((a 58).getD (0 : Int32).toNatClampNeg 0).toInt ≤ 2147483647) := kd_bd ((a 58).getD (0 : Int32).toNatClampNeg 0)
        have b65 : ((-2147483648 : Int) ≤ ((a61 63).getD (2 : Int32).toNatClampNeg 0).toInt) ∧ (((a61 63).getD (2 : Int32).toNatClampNeg 0).toInt ≤ 2147483647) := kd_bd ((a61 63).getD (2 : Int32).toNatClampNeg 0)
        have b66 : ((-2147483648 : Int) ≤ (((a 58).getD (0 : Int32).toNatClampNeg 0) - m53).toInt) ∧ ((((a 58).getD (0 : Int32).toNatClampNeg 0) - m53).toInt ≤ 2147483647) := kd_bd (((a 58).getD (0 : Int32).toNatClampNeg 0) - m53)
        refine fo_goS mi_k30 fz30_117_4_122 [.int (((a61 63).getD (2 : Int32).toNatClampNeg 0) + (((a 58).getD (0 : Int32).toNatClampNeg 0) - m53)), .int 2, .ref 63] rfl ?_
        refine ko_iast3 mi_k30.1 (n := 5) (c := 5) (ax := (0, 0, 0, 0, 0)) (mi_k30.2 _ _ (by rfl)) (by rfl) (ksG63 _ _ _ _) (ksA63 _ _ _ _) (hJ63.I.2.1 63) rfl (oz256 kn2) (oz549 kn2) ?_
        intro a67 ea67 fa67
        have hJ67 := kG_a3 hJ63 63 rfl ea67 fa67 (kd_bd _)
        refine fo_goS mi_k30 fz30_123_3_128 [.int ((a 57).getD (0 : Int32).toNatClampNeg 0), .ref 64] rfl ?_
        by_cases w68 : ((a 57).getD (0 : Int32).toNatClampNeg 0).toInt = 0
        ·
          refine ft_alx mi_k30 (pc := 128) (v := 0) (p := 64) (z := 65) (kj_eq w68 (by decide) : ((a 57).getD (0 : Int32).toNatClampNeg 0) = 0) (by decide +kernel) (by decide +kernel) ?_
          refine fo_goS mi_k30 fz30_129_2_131 [.int x1, .ref 65, .int x1, .ref 65] rfl ?_
          refine ko_iald3 mi_k30.1 (n := 8) (c := 8) (ax := (0, 0, 0, 0, 0)) (mi_k30.2 _ _ (by rfl)) (by rfl) (ksG65 _ _ _ _) (hJ67.I.2.1 65) rfl (oz3 hp0.1) (oz1032 hp0.2) ?_
          have b69 : ((-2147483648 : Int) ≤ ((a67 65).getD x1.toNatClampNeg 0).toInt) ∧ (((a67 65).getD x1.toNatClampNeg 0).toInt ≤ 2147483647) := kd_bd ((a67 65).getD x1.toNatClampNeg 0)
          refine fo_goS mi_k30 fz30_132_2_135 [.int (((a67 65).getD x1.toNatClampNeg 0) + m53), .int x1, .ref 65] rfl ?_
          refine ko_iast3 mi_k30.1 (n := 8) (c := 8) (ax := (0, 0, 0, 0, 0)) (mi_k30.2 _ _ (by rfl)) (by rfl) (ksG65 _ _ _ _) (ksA65 _ _ _ _) (hJ67.I.2.1 65) rfl (oz3 hp0.1) (oz1032 hp0.2) ?_
          intro a70 ea70 fa70
          have hJ70 := kG_a3 hJ67 65 rfl ea70 fa70 (kd_bd _)
          exact ft_ret mi_k30 rfl (hP  _ _ _ _ hJ70 trivial)
        by_cases w71 : ((a 57).getD (0 : Int32).toNatClampNeg 0).toInt = 1
        ·
          refine ft_alx mi_k30 (pc := 128) (v := 1) (p := 64) (z := 66) (kj_eq w71 (by decide) : ((a 57).getD (0 : Int32).toNatClampNeg 0) = 1) (by decide +kernel) (by decide +kernel) ?_
          refine fo_goS mi_k30 fz30_129_2_131 [.int x1, .ref 66, .int x1, .ref 66] rfl ?_
          refine ko_iald3 mi_k30.1 (n := 8) (c := 8) (ax := (0, 0, 0, 0, 0)) (mi_k30.2 _ _ (by rfl)) (by rfl) (ksG66 _ _ _ _) (hJ67.I.2.1 66) rfl (oz3 hp0.1) (oz1032 hp0.2) ?_
          have b72 : ((-2147483648 : Int) ≤ ((a67 66).getD x1.toNatClampNeg 0).toInt) ∧ (((a67 66).getD x1.toNatClampNeg 0).toInt ≤ 2147483647) := kd_bd ((a67 66).getD x1.toNatClampNeg 0)
          refine fo_goS mi_k30 fz30_132_2_135 [.int (((a67 66).getD x1.toNatClampNeg 0) + m53), .int x1, .ref 66] rfl ?_
          refine ko_iast3 mi_k30.1 (n := 8) (c := 8) (ax := (0, 0, 0, 0, 0)) (mi_k30.2 _ _ (by rfl)) (by rfl) (ksG66 _ _ _ _) (ksA66 _ _ _ _) (hJ67.I.2.1 66) rfl (oz3 hp0.1) (oz1032 hp0.2) ?_
          intro a73 ea73 fa73
          have hJ73 := kG_a3 hJ67 66 rfl ea73 fa73 (kd_bd _)
          exact ft_ret mi_k30 rfl (hP  _ _ _ _ hJ73 trivial)
        by_cases w74 : ((a 57).getD (0 : Int32).toNatClampNeg 0).toInt = 2
        ·
          refine ft_alx mi_k30 (pc := 128) (v := 2) (p := 64) (z := 67) (kj_eq w74 (by decide) : ((a 57).getD (0 : Int32).toNatClampNeg 0) = 2) (by decide +kernel) (by decide +kernel) ?_
          refine fo_goS mi_k30 fz30_129_2_131 [.int x1, .ref 67, .int x1, .ref 67] rfl ?_
          refine ko_iald3 mi_k30.1 (n := 8) (c := 8) (ax := (0, 0, 0, 0, 0)) (mi_k30.2 _ _ (by rfl)) (by rfl) (ksG67 _ _ _ _) (hJ67.I.2.1 67) rfl (oz3 hp0.1) (oz1032 hp0.2) ?_
          have b75 : ((-2147483648 : Int) ≤ ((a67 67).getD x1.toNatClampNeg 0).toInt) ∧ (((a67 67).getD x1.toNatClampNeg 0).toInt ≤ 2147483647) := kd_bd ((a67 67).getD x1.toNatClampNeg 0)
          refine fo_goS mi_k30 fz30_132_2_135 [.int (((a67 67).getD x1.toNatClampNeg 0) + m53), .int x1, .ref 67] rfl ?_
          refine ko_iast3 mi_k30.1 (n := 8) (c := 8) (ax := (0, 0, 0, 0, 0)) (mi_k30.2 _ _ (by rfl)) (by rfl) (ksG67 _ _ _ _) (ksA67 _ _ _ _) (hJ67.I.2.1 67) rfl (oz3 hp0.1) (oz1032 hp0.2) ?_
          intro a76 ea76 fa76
          have hJ76 := kG_a3 hJ67 67 rfl ea76 fa76 (kd_bd _)
          exact ft_ret mi_k30 rfl (hP  _ _ _ _ hJ76 trivial)
        by_cases w77 : ((a 57).getD (0 : Int32).toNatClampNeg 0).toInt = 3
        ·
          refine ft_alx mi_k30 (pc := 128) (v := 3) (p := 64) (z := 68) (kj_eq w77 (by decide) : ((a 57).getD (0 : Int32).toNatClampNeg 0) = 3) (by decide +kernel) (by decide +kernel) ?_
          refine fo_goS mi_k30 fz30_129_2_131 [.int x1, .ref 68, .int x1, .ref 68] rfl ?_
          refine ko_iald3 mi_k30.1 (n := 8) (c := 8) (ax := (0, 0, 0, 0, 0)) (mi_k30.2 _ _ (by rfl)) (by rfl) (ksG68 _ _ _ _) (hJ67.I.2.1 68) rfl (oz3 hp0.1) (oz1032 hp0.2) ?_
          have b78 : ((-2147483648 : Int) ≤ ((a67 68).getD x1.toNatClampNeg 0).toInt) ∧ (((a67 68).getD x1.toNatClampNeg 0).toInt ≤ 2147483647) := kd_bd ((a67 68).getD x1.toNatClampNeg 0)
          refine fo_goS mi_k30 fz30_132_2_135 [.int (((a67 68).getD x1.toNatClampNeg 0) + m53), .int x1, .ref 68] rfl ?_
          refine ko_iast3 mi_k30.1 (n := 8) (c := 8) (ax := (0, 0, 0, 0, 0)) (mi_k30.2 _ _ (by rfl)) (by rfl) (ksG68 _ _ _ _) (ksA68 _ _ _ _) (hJ67.I.2.1 68) rfl (oz3 hp0.1) (oz1032 hp0.2) ?_
          intro a79 ea79 fa79
          have hJ79 := kG_a3 hJ67 68 rfl ea79 fa79 (kd_bd _)
          exact ft_ret mi_k30 rfl (hP  _ _ _ _ hJ79 trivial)
        by_cases w80 : ((a 57).getD (0 : Int32).toNatClampNeg 0).toInt = 4
        ·
          refine ft_alx mi_k30 (pc := 128) (v := 4) (p := 64) (z := 69) (kj_eq w80 (by decide) : ((a 57).getD (0 : Int32).toNatClampNeg 0) = 4) (by decide +kernel) (by decide +kernel) ?_
          refine fo_goS mi_k30 fz30_129_2_131 [.int x1, .ref 69, .int x1, .ref 69] rfl ?_
          refine ko_iald3 mi_k30.1 (n := 8) (c := 8) (ax := (0, 0, 0, 0, 0)) (mi_k30.2 _ _ (by rfl)) (by rfl) (ksG69 _ _ _ _) (hJ67.I.2.1 69) rfl (oz3 hp0.1) (oz1032 hp0.2) ?_
          have b81 : ((-2147483648 : Int) ≤ ((a67 69).getD x1.toNatClampNeg 0).toInt) ∧ (((a67 69).getD x1.toNatClampNeg 0).toInt ≤ 2147483647) := kd_bd ((a67 69).getD x1.toNatClampNeg 0)
          refine fo_goS mi_k30 fz30_132_2_135 [.int (((a67 69).getD x1.toNatClampNeg 0) + m53), .int x1, .ref 69] rfl ?_
          refine ko_iast3 mi_k30.1 (n := 8) (c := 8) (ax := (0, 0, 0, 0, 0)) (mi_k30.2 _ _ (by rfl)) (by rfl) (ksG69 _ _ _ _) (ksA69 _ _ _ _) (hJ67.I.2.1 69) rfl (oz3 hp0.1) (oz1032 hp0.2) ?_
          intro a82 ea82 fa82
          have hJ82 := kG_a3 hJ67 69 rfl ea82 fa82 (kd_bd _)
          exact ft_ret mi_k30 rfl (hP  _ _ _ _ hJ82 trivial)
        by_cases w83 : ((a 57).getD (0 : Int32).toNatClampNeg 0).toInt = 5
        ·
          refine ft_alx mi_k30 (pc := 128) (v := 5) (p := 64) (z := 70) (kj_eq w83 (by decide) : ((a 57).getD (0 : Int32).toNatClampNeg 0) = 5) (by decide +kernel) (by decide +kernel) ?_
          refine fo_goS mi_k30 fz30_129_2_131 [.int x1, .ref 70, .int x1, .ref 70] rfl ?_
          refine ko_iald3 mi_k30.1 (n := 8) (c := 8) (ax := (0, 0, 0, 0, 0)) (mi_k30.2 _ _ (by rfl)) (by rfl) (ksG70 _ _ _ _) (hJ67.I.2.1 70) rfl (oz3 hp0.1) (oz1032 hp0.2) ?_
          have b84 : ((-2147483648 : Int) ≤ ((a67 70).getD x1.toNatClampNeg 0).toInt) ∧ (((a67 70).getD x1.toNatClampNeg 0).toInt ≤ 2147483647) := kd_bd ((a67 70).getD x1.toNatClampNeg 0)
          refine fo_goS mi_k30 fz30_132_2_135 [.int (((a67 70).getD x1.toNatClampNeg 0) + m53), .int x1, .ref 70] rfl ?_
          refine ko_iast3 mi_k30.1 (n := 8) (c := 8) (ax := (0, 0, 0, 0, 0)) (mi_k30.2 _ _ (by rfl)) (by rfl) (ksG70 _ _ _ _) (ksA70 _ _ _ _) (hJ67.I.2.1 70) rfl (oz3 hp0.1) (oz1032 hp0.2) ?_
          intro a85 ea85 fa85
          have hJ85 := kG_a3 hJ67 70 rfl ea85 fa85 (kd_bd _)
          exact ft_ret mi_k30 rfl (hP  _ _ _ _ hJ85 trivial)
        by_cases w86 : ((a 57).getD (0 : Int32).toNatClampNeg 0).toInt = 6
        ·
          refine ft_alx mi_k30 (pc := 128) (v := 6) (p := 64) (z := 71) (kj_eq w86 (by decide) : ((a 57).getD (0 : Int32).toNatClampNeg 0) = 6) (by decide +kernel) (by decide +kernel) ?_
          refine fo_goS mi_k30 fz30_129_2_131 [.int x1, .ref 71, .int x1, .ref 71] rfl ?_
          refine ko_iald3 mi_k30.1 (n := 8) (c := 8) (ax := (0, 0, 0, 0, 0)) (mi_k30.2 _ _ (by rfl)) (by rfl) (ksG71 _ _ _ _) (hJ67.I.2.1 71) rfl (oz3 hp0.1) (oz1032 hp0.2) ?_
          have b87 : ((-2147483648 : Int) ≤ ((a67 71).getD x1.toNatClampNeg 0).toInt) ∧ (((a67 71).getD x1.toNatClampNeg 0).toInt ≤ 2147483647) := kd_bd ((a67 71).getD x1.toNatClampNeg 0)
          refine fo_goS mi_k30 fz30_132_2_135 [.int (((a67 71).getD x1.toNatClampNeg 0) + m53), .int x1, .ref 71] rfl ?_
          refine ko_iast3 mi_k30.1 (n := 8) (c := 8) (ax := (0, 0, 0, 0, 0)) (mi_k30.2 _ _ (by rfl)) (by rfl) (ksG71 _ _ _ _) (ksA71 _ _ _ _) (hJ67.I.2.1 71) rfl (oz3 hp0.1) (oz1032 hp0.2) ?_
          intro a88 ea88 fa88
          have hJ88 := kG_a3 hJ67 71 rfl ea88 fa88 (kd_bd _)
          exact ft_ret mi_k30 rfl (hP  _ _ _ _ hJ88 trivial)
        by_cases w89 : ((a 57).getD (0 : Int32).toNatClampNeg 0).toInt = 7
        ·
          refine ft_alx mi_k30 (pc := 128) (v := 7) (p := 64) (z := 72) (kj_eq w89 (by decide) : ((a 57).getD (0 : Int32).toNatClampNeg 0) = 7) (by decide +kernel) (by decide +kernel) ?_
          refine fo_goS mi_k30 fz30_129_2_131 [.int x1, .ref 72, .int x1, .ref 72] rfl ?_
          refine ko_iald3 mi_k30.1 (n := 8) (c := 8) (ax := (0, 0, 0, 0, 0)) (mi_k30.2 _ _ (by rfl)) (by rfl) (ksG72 _ _ _ _) (hJ67.I.2.1 72) rfl (oz3 hp0.1) (oz1032 hp0.2) ?_
          have b90 : ((-2147483648 : Int) ≤ ((a67 72).getD x1.toNatClampNeg 0).toInt) ∧ (((a67 72).getD x1.toNatClampNeg 0).toInt ≤ 2147483647) := kd_bd ((a67 72).getD x1.toNatClampNeg 0)
          refine fo_goS mi_k30 fz30_132_2_135 [.int (((a67 72).getD x1.toNatClampNeg 0) + m53), .int x1, .ref 72] rfl ?_
          refine ko_iast3 mi_k30.1 (n := 8) (c := 8) (ax := (0, 0, 0, 0, 0)) (mi_k30.2 _ _ (by rfl)) (by rfl) (ksG72 _ _ _ _) (ksA72 _ _ _ _) (hJ67.I.2.1 72) rfl (oz3 hp0.1) (oz1032 hp0.2) ?_
          intro a91 ea91 fa91
          have hJ91 := kG_a3 hJ67 72 rfl ea91 fa91 (kd_bd _)
          exact ft_ret mi_k30 rfl (hP  _ _ _ _ hJ91 trivial)
        exact (oz1051_m fig1_3200.2 w68 w71 w74 w77 w80 w83 w86 w89 z52.1 z52.2).elim
      ·
        subst eg51
        first | refine fo_goS mi_k30 fz30_51_1_54 [] (by rfl) ?_ | refine ft_goS mi_k30 1 54 [] (by rfl) ?_ | refine ft_go mi_k30 1 54 [(3, .int ((a 58).getD (0 : Int32).toNatClampNeg 0)), (2, .int ((a 57).getD (0 : Int32).toNatClampNeg 0)), (0, .ref 50), (1, .int x1)] [] (ku ig1 3214 ((a 57).getD (0 : Int32).toNatClampNeg 0)) ag1 qg1 rg1 (by rfl) ?_ | refine ko_steps mi_in30 1 _ (54, [(3, .int ((a 58).getD (0 : Int32).toNatClampNeg 0)), (2, .int ((a 57).getD (0 : Int32).toNatClampNeg 0)), (0, .ref 50), (1, .int x1)], [], (0, 0), ks (ku ig1 3214 ((a 57).getD (0 : Int32).toNatClampNeg 0)) ag1 qg1 rg1) (by rfl) ?_
        exact ft_ret mi_k30 rfl (hP  _ _ _ _ hJ48 trivial)
def w29_50_m : kW := ([645, 3209, 3214, 3215, 3216, 3586, 3781, 6405], [13, 51, 55, 57, 58, 62, 63, 65, 66, 67, 68, 69, 70, 71, 72, 73, 103], [], [])
def w29_50_L52_m : kW := ([3214, 3215, 3586], [51, 57, 58, 63, 65, 66, 67, 68, 69, 70, 71, 72], [], [])
set_option maxRecDepth 100000 in
theorem kc29_50_m {i : Nat → Int32} {a : Nat → List Int32} {q : Nat → List Int64} {r : Nat → Nat} (hI : kI i a q) (hr : kr r) (x1 : Int32) : km 7 29 [.ref 50, .int x1] (ks i a q r) (kVI w29_50_m i a q r (fun v i1 a1 q1 r1 => True)) := by
  have hG := kG_self w29_50_m hI hr
  refine km_ofI (q := (mi_h29, mi_c29)) rfl (by decide) (Nat.le_of_ble_eq_true rfl) ?_
  intro P hP
  have hJ1 := kG_i hG 3214 rfl (v := 8) (kd_bd _)
  have hJ2 := kG_i hJ1 3215 rfl (v := 0) (kd_bd _)
  have hJ3 := kG_i hJ2 3216 rfl (v := 0) (kd_bd _)
  first | refine fo_go mi_k29 fz29_0_11_18 [(0, .ref 50), (1, .int x1)] [.int x1, .ref 50] (ku (ku (ku i 3214 8) 3215 0) 3216 0) a q r (by rfl) ?_ | refine ft_go mi_k29 11 18 [(0, .ref 50), (1, .int x1)] [.int x1, .ref 50] (ku (ku (ku i 3214 8) 3215 0) 3216 0) a q r (by rfl) ?_
  refine ko_callPI mi_k29.1 (pc := 18) (ls := [(0, .ref 50), (1, .int x1)]) (st := [.int x1, .ref 50]) (h := ks (ku (ku (ku i 3214 8) 3215 0) 3216 0) a q r) (i := (.invokevirtual 85, 3, 24, 0, 9, 0, 165)) (mi_k29.2 _ _ (by rfl)) (ft_invS mi_pq24 (by rfl)) (cy := mi_c24) mi_pq24 rfl (kc24_50 hJ3.I hJ3.R x1) (by decide) ?_
  intro vg4 hg4
  rcases hg4 with ⟨eg4, hg4⟩ | ⟨eg4, hg4⟩
  ·
    subst eg4
    have fi_3200 : ((0 : Int) ≤ (i 3200).toInt) ∧ ((i 3200).toInt ≤ 8) := hJ3.I.1 3200
    have z5 : ((0 : Int) ≤ x1.toInt) ∧ (x1.toInt < (i 3200).toInt) := hg4
    refine fo_goS mi_k29 fz29_21_3_28 [.int (i 3207)] rfl ?_
    refine ft_ifS mi_k29 ((i 3207) != 0) 43 31 [] rfl (fun c => ?_) (fun c => ?_)
    ·
      have c6 : (i 3207).toInt ≠ (0 : Int32).toInt := kd_ne c; clear c
      refine fo_goS mi_k29 fz29_43_3_48 [.int x1, .ref 51] rfl ?_
      refine ko_iald3 mi_k29.1 (n := 8) (c := 8) (ax := (0, 0, 0, 0, 0)) (mi_k29.2 _ _ (by rfl)) (by rfl) (ksG51 _ _ _ _) (hJ3.I.2.1 51) rfl (oz3 z5.1) (oz974 fi_3200.2 z5.2) ?_
      first | refine fo_goL mi_k29 fz29_49_3_52 [(3, .int 0), (2, .int ((a 51).getD x1.toNatClampNeg 0)), (0, .ref 50), (1, .int x1)] [] (by rfl) ?_ | refine ft_goL mi_k29 3 52 [(3, .int 0), (2, .int ((a 51).getD x1.toNatClampNeg 0)), (0, .ref 50), (1, .int x1)] [] (by rfl) ?_ | refine ft_go mi_k29 3 52 [(3, .int 0), (2, .int ((a 51).getD x1.toNatClampNeg 0)), (0, .ref 50), (1, .int x1)] [] (ku (ku (ku i 3214 8) 3215 0) 3216 0) a q r (by rfl) ?_
      have lp7 : ∀ (nz : Nat) (i7 : Nat → Int32) (a7 : Nat → List Int32) (q7 : Nat → List Int64) (r7 : Nat → Nat) (l3_7 : Int32), kG w29_50_L52_m (ku (ku (ku i 3214 8) 3215 0) 3216 0) a q r i7 a7 q7 r7 → (0 : Int) ≤ l3_7.toInt → ((5 - l3_7.toInt)).toNat < nz → ko 7 (mi_h29, mi_c29) P (52, [(3, .int l3_7), (2, .int ((a 51).getD x1.toNatClampNeg 0)), (0, .ref 50), (1, .int x1)], [], (0, 0), ks i7 a7 q7 r7) := by
        intro nz
        induction nz with
        | zero =>
          intro _ _ _ _ _ _ _ hm
          exact absurd hm (Nat.not_lt_zero _)
        | succ nz ih7 =>
          intro i7 a7 q7 r7 l3_7 hL7 p7_0 hm7
          refine fo_goL mi_k29 fz29_52_2_54 [(3, .int l3_7), (2, .int ((a 51).getD x1.toNatClampNeg 0)), (0, .ref 50), (1, .int x1)] [.int 5, .int l3_7] rfl ?_
          refine ft_ifS mi_k29 (decide (5 ≤ l3_7)) 82 57 [] rfl (fun c => ?_) (fun c => ?_)
          ·
            have c8 : (5 : Int32).toInt ≤ l3_7.toInt := kd_le c; clear c
            have hG9 := kG_call hJ3 hL7 (by decide +kernel)
            refine fo_goS mi_k29 fz29_82_4_86 [.int ((a 51).getD x1.toNatClampNeg 0), .int x1, .ref 50, .ref 50] rfl ?_
            refine ko_callI mi_k29.1 (pc := 86) (ls := [(3, .int l3_7), (2, .int ((a 51).getD x1.toNatClampNeg 0)), (0, .ref 50), (1, .int x1)]) (st := [.int ((a 51).getD x1.toNatClampNeg 0), .int x1, .ref 50, .ref 50]) (h := ks i7 a7 q7 r7) (i := (.invokevirtual 100, 3, 31, 0, 9, 0, 223)) (mi_k29.2 _ _ (by rfl)) (ft_invS mi_pq31 (by rfl)) (cy := mi_c31) mi_pq31 rfl (kc31_50 hG9.I hG9.R x1 ((a 51).getD x1.toNatClampNeg 0) (oz423 fi_3200.2 z5.1 z5.2)) (by decide) ?_
            intro vg10 ig10 ag10 qg10 rg10 kg10 hg10
            have hGg10 := kG_call hG9 kg10 (by decide +kernel)
            have hJ11 := kG_i hGg10 3216 rfl (v := vg10) (kd_bd _)
            first | refine fo_goI mi_k29 fz29_89_6_101 [.int vg10, .int x1, .ref 56] (ku ig10 3216 vg10) (by rfl) ?_ | refine ft_go mi_k29 6 101 [(3, .int l3_7), (2, .int ((a 51).getD x1.toNatClampNeg 0)), (0, .ref 50), (1, .int x1)] [.int vg10, .int x1, .ref 56] (ku ig10 3216 vg10) ag10 qg10 rg10 (by rfl) ?_
            refine ko_callN mi_k29.1 (pc := 101) (ls := [(3, .int l3_7), (2, .int ((a 51).getD x1.toNatClampNeg 0)), (0, .ref 50), (1, .int x1)]) (st := [.int vg10, .int x1, .ref 56]) (h := ks (ku ig10 3216 vg10) ag10 qg10 rg10) (i := (.invokevirtual 104, 3, 1, 0, 9, 0, 228)) (mi_k29.2 _ _ (by rfl)) (ft_invS mi_pq1 (by rfl)) (cy := mi_c1) mi_pq1 rfl (kc1_56_m hJ11.I hJ11.R x1 vg10) (by decide) ?_
            intro ig12 ag12 qg12 rg12 kg12 hg12
            have hGg12 := kG_call hJ11 kg12 (by decide +kernel)
            have b13 : ((-2147483648 : Int) ≤ (ig12 3209).toInt) ∧ ((ig12 3209).toInt ≤ 2147483647) := kd_bd (ig12 3209)
            have hJ14 := kG_i hGg12 3209 rfl (v := ((ig12 3209) + 1)) (kd_bd _)
            first | refine fo_goI mi_k29 fz29_104_10_120 [.int x1, .ref 55, .int x1, .ref 55] (ku ig12 3209 ((ig12 3209) + 1)) (by rfl) ?_ | refine ft_go mi_k29 10 120 [(3, .int l3_7), (2, .int ((a 51).getD x1.toNatClampNeg 0)), (0, .ref 50), (1, .int x1)] [.int x1, .ref 55, .int x1, .ref 55] (ku ig12 3209 ((ig12 3209) + 1)) ag12 qg12 rg12 (by rfl) ?_
            refine ko_iald3 mi_k29.1 (n := 8) (c := 8) (ax := (0, 0, 0, 0, 0)) (mi_k29.2 _ _ (by rfl)) (by rfl) (ksG55 _ _ _ _) (hJ14.I.2.1 55) rfl (oz3 z5.1) (oz974 fi_3200.2 z5.2) ?_
            have b15 : ((-2147483648 : Int) ≤ ((ag12 55).getD x1.toNatClampNeg 0).toInt) ∧ (((ag12 55).getD x1.toNatClampNeg 0).toInt ≤ 2147483647) := kd_bd ((ag12 55).getD x1.toNatClampNeg 0)
            refine fo_goS mi_k29 fz29_121_2_123 [.int (((ag12 55).getD x1.toNatClampNeg 0) + 1), .int x1, .ref 55] rfl ?_
            refine ko_iast3 mi_k29.1 (n := 8) (c := 8) (ax := (0, 0, 0, 0, 0)) (mi_k29.2 _ _ (by rfl)) (by rfl) (ksG55 _ _ _ _) (ksA55 _ _ _ _) (hJ14.I.2.1 55) rfl (oz3 z5.1) (oz974 fi_3200.2 z5.2) ?_
            intro a16 ea16 fa16
            have hJ16 := kG_a3 hJ14 55 rfl ea16 fa16 (kd_bd _)
            refine fo_goS mi_k29 fz29_124_4_130 [.int 0, .ref 63, .int 0, .ref 63] rfl ?_
            refine ko_iald3 mi_k29.1 (n := 5) (c := 5) (ax := (0, 0, 0, 0, 0)) (mi_k29.2 _ _ (by rfl)) (by rfl) (ksG63 _ _ _ _) (hJ16.I.2.1 63) rfl (oz46 kn0) (oz547 kn0) ?_
            have b17 : ((-2147483648 : Int) ≤ ((a16 63).getD (0 : Int32).toNatClampNeg 0).toInt) ∧ (((a16 63).getD (0 : Int32).toNatClampNeg 0).toInt ≤ 2147483647) := kd_bd ((a16 63).getD (0 : Int32).toNatClampNeg 0)
            refine fo_goS mi_k29 fz29_131_2_133 [.int (((a16 63).getD (0 : Int32).toNatClampNeg 0) + 1), .int 0, .ref 63] rfl ?_
            refine ko_iast3 mi_k29.1 (n := 5) (c := 5) (ax := (0, 0, 0, 0, 0)) (mi_k29.2 _ _ (by rfl)) (by rfl) (ksG63 _ _ _ _) (ksA63 _ _ _ _) (hJ16.I.2.1 63) rfl (oz46 kn0) (oz547 kn0) ?_
            intro a18 ea18 fa18
            have hJ18 := kG_a3 hJ16 63 rfl ea18 fa18 (kd_bd _)
            refine fo_goS mi_k29 fz29_134_4_140 [.int 1, .ref 63, .int 1, .ref 63] rfl ?_
            refine ko_iald3 mi_k29.1 (n := 5) (c := 5) (ax := (0, 0, 0, 0, 0)) (mi_k29.2 _ _ (by rfl)) (by rfl) (ksG63 _ _ _ _) (hJ18.I.2.1 63) rfl (oz246 kn1) (oz548 kn1) ?_
            have b19 : ((-2147483648 : Int) ≤ ((a18 63).getD (1 : Int32).toNatClampNeg 0).toInt) ∧ (((a18 63).getD (1 : Int32).toNatClampNeg 0).toInt ≤ 2147483647) := kd_bd ((a18 63).getD (1 : Int32).toNatClampNeg 0)
            have b20 : ((-2147483648 : Int) ≤ (ig12 3215).toInt) ∧ ((ig12 3215).toInt ≤ 2147483647) := kd_bd (ig12 3215)
            refine fo_goS mi_k29 fz29_141_3_146 [.int (((a18 63).getD (1 : Int32).toNatClampNeg 0) + (ig12 3215)), .int 1, .ref 63] rfl ?_
            refine ko_iast3 mi_k29.1 (n := 5) (c := 5) (ax := (0, 0, 0, 0, 0)) (mi_k29.2 _ _ (by rfl)) (by rfl) (ksG63 _ _ _ _) (ksA63 _ _ _ _) (hJ18.I.2.1 63) rfl (oz246 kn1) (oz548 kn1) ?_
            intro a21 ea21 fa21
            have hJ21 := kG_a3 hJ18 63 rfl ea21 fa21 (kd_bd _)
            refine fo_goS mi_k29 fz29_147_2_151 [.int (ig12 3215)] rfl ?_
            exact ft_ret mi_k29 rfl (hP (ig12 3215) _ _ _ _ hJ21 trivial)
          ·
            have c22 : l3_7.toInt < (5 : Int32).toInt := kd_leF c; clear c
            refine fo_goS mi_k29 fz29_57_5_68 [.int (i7 3206), .int (i7 3586)] rfl ?_
            refine ft_ifS mi_k29 (decide ((i7 3586) < (i7 3206))) 82 71 [] rfl (fun c => ?_) (fun c => ?_)
            ·
              have c23 : (i7 3586).toInt < (i7 3206).toInt := kd_lt c; clear c
              have hG24 := kG_call hJ3 hL7 (by decide +kernel)
              refine fo_goS mi_k29 fz29_82_4_86 [.int ((a 51).getD x1.toNatClampNeg 0), .int x1, .ref 50, .ref 50] rfl ?_
              refine ko_callI mi_k29.1 (pc := 86) (ls := [(3, .int l3_7), (2, .int ((a 51).getD x1.toNatClampNeg 0)), (0, .ref 50), (1, .int x1)]) (st := [.int ((a 51).getD x1.toNatClampNeg 0), .int x1, .ref 50, .ref 50]) (h := ks i7 a7 q7 r7) (i := (.invokevirtual 100, 3, 31, 0, 9, 0, 223)) (mi_k29.2 _ _ (by rfl)) (ft_invS mi_pq31 (by rfl)) (cy := mi_c31) mi_pq31 rfl (kc31_50 hG24.I hG24.R x1 ((a 51).getD x1.toNatClampNeg 0) (oz423 fi_3200.2 z5.1 z5.2)) (by decide) ?_
              intro vg25 ig25 ag25 qg25 rg25 kg25 hg25
              have hGg25 := kG_call hG24 kg25 (by decide +kernel)
              have hJ26 := kG_i hGg25 3216 rfl (v := vg25) (kd_bd _)
              first | refine fo_goI mi_k29 fz29_89_6_101 [.int vg25, .int x1, .ref 56] (ku ig25 3216 vg25) (by rfl) ?_ | refine ft_go mi_k29 6 101 [(3, .int l3_7), (2, .int ((a 51).getD x1.toNatClampNeg 0)), (0, .ref 50), (1, .int x1)] [.int vg25, .int x1, .ref 56] (ku ig25 3216 vg25) ag25 qg25 rg25 (by rfl) ?_
              refine ko_callN mi_k29.1 (pc := 101) (ls := [(3, .int l3_7), (2, .int ((a 51).getD x1.toNatClampNeg 0)), (0, .ref 50), (1, .int x1)]) (st := [.int vg25, .int x1, .ref 56]) (h := ks (ku ig25 3216 vg25) ag25 qg25 rg25) (i := (.invokevirtual 104, 3, 1, 0, 9, 0, 228)) (mi_k29.2 _ _ (by rfl)) (ft_invS mi_pq1 (by rfl)) (cy := mi_c1) mi_pq1 rfl (kc1_56_m hJ26.I hJ26.R x1 vg25) (by decide) ?_
              intro ig27 ag27 qg27 rg27 kg27 hg27
              have hGg27 := kG_call hJ26 kg27 (by decide +kernel)
              have b28 : ((-2147483648 : Int) ≤ (ig27 3209).toInt) ∧ ((ig27 3209).toInt ≤ 2147483647) := kd_bd (ig27 3209)
              have hJ29 := kG_i hGg27 3209 rfl (v := ((ig27 3209) + 1)) (kd_bd _)
              first | refine fo_goI mi_k29 fz29_104_10_120 [.int x1, .ref 55, .int x1, .ref 55] (ku ig27 3209 ((ig27 3209) + 1)) (by rfl) ?_ | refine ft_go mi_k29 10 120 [(3, .int l3_7), (2, .int ((a 51).getD x1.toNatClampNeg 0)), (0, .ref 50), (1, .int x1)] [.int x1, .ref 55, .int x1, .ref 55] (ku ig27 3209 ((ig27 3209) + 1)) ag27 qg27 rg27 (by rfl) ?_
              refine ko_iald3 mi_k29.1 (n := 8) (c := 8) (ax := (0, 0, 0, 0, 0)) (mi_k29.2 _ _ (by rfl)) (by rfl) (ksG55 _ _ _ _) (hJ29.I.2.1 55) rfl (oz3 z5.1) (oz974 fi_3200.2 z5.2) ?_
              have b30 : ((-2147483648 : Int) ≤ ((ag27 55).getD x1.toNatClampNeg 0).toInt) ∧ (((ag27 55).getD x1.toNatClampNeg 0).toInt ≤ 2147483647) := kd_bd ((ag27 55).getD x1.toNatClampNeg 0)
              refine fo_goS mi_k29 fz29_121_2_123 [.int (((ag27 55).getD x1.toNatClampNeg 0) + 1), .int x1, .ref 55] rfl ?_
              refine ko_iast3 mi_k29.1 (n := 8) (c := 8) (ax := (0, 0, 0, 0, 0)) (mi_k29.2 _ _ (by rfl)) (by rfl) (ksG55 _ _ _ _) (ksA55 _ _ _ _) (hJ29.I.2.1 55) rfl (oz3 z5.1) (oz974 fi_3200.2 z5.2) ?_
              intro a31 ea31 fa31
              have hJ31 := kG_a3 hJ29 55 rfl ea31 fa31 (kd_bd _)
              refine fo_goS mi_k29 fz29_124_4_130 [.int 0, .ref 63, .int 0, .ref 63] rfl ?_
              refine ko_iald3 mi_k29.1 (n := 5) (c := 5) (ax := (0, 0, 0, 0, 0)) (mi_k29.2 _ _ (by rfl)) (by rfl) (ksG63 _ _ _ _) (hJ31.I.2.1 63) rfl (oz46 kn0) (oz547 kn0) ?_
              have b32 : ((-2147483648 : Int) ≤ ((a31 63).getD (0 : Int32).toNatClampNeg 0).toInt) ∧ (((a31 63).getD (0 : Int32).toNatClampNeg 0).toInt ≤ 2147483647) := kd_bd ((a31 63).getD (0 : Int32).toNatClampNeg 0)
              refine fo_goS mi_k29 fz29_131_2_133 [.int (((a31 63).getD (0 : Int32).toNatClampNeg 0) + 1), .int 0, .ref 63] rfl ?_
              refine ko_iast3 mi_k29.1 (n := 5) (c := 5) (ax := (0, 0, 0, 0, 0)) (mi_k29.2 _ _ (by rfl)) (by rfl) (ksG63 _ _ _ _) (ksA63 _ _ _ _) (hJ31.I.2.1 63) rfl (oz46 kn0) (oz547 kn0) ?_
              intro a33 ea33 fa33
              have hJ33 := kG_a3 hJ31 63 rfl ea33 fa33 (kd_bd _)
              refine fo_goS mi_k29 fz29_134_4_140 [.int 1, .ref 63, .int 1, .ref 63] rfl ?_
              refine ko_iald3 mi_k29.1 (n := 5) (c := 5) (ax := (0, 0, 0, 0, 0)) (mi_k29.2 _ _ (by rfl)) (by rfl) (ksG63 _ _ _ _) (hJ33.I.2.1 63) rfl (oz246 kn1) (oz548 kn1) ?_
              have b34 : ((-2147483648 : Int) ≤ ((a33 63).getD (1 : Int32).toNatClampNeg 0).toInt) ∧ (((a33 63).getD (1 : Int32).toNatClampNeg 0).toInt ≤ 2147483647) := kd_bd ((a33 63).getD (1 : Int32).toNatClampNeg 0)
              have b35 : ((-2147483648 : Int) ≤ (ig27 3215).toInt) ∧ ((ig27 3215).toInt ≤ 2147483647) := kd_bd (ig27 3215)
              refine fo_goS mi_k29 fz29_141_3_146 [.int (((a33 63).getD (1 : Int32).toNatClampNeg 0) + (ig27 3215)), .int 1, .ref 63] rfl ?_
              refine ko_iast3 mi_k29.1 (n := 5) (c := 5) (ax := (0, 0, 0, 0, 0)) (mi_k29.2 _ _ (by rfl)) (by rfl) (ksG63 _ _ _ _) (ksA63 _ _ _ _) (hJ33.I.2.1 63) rfl (oz246 kn1) (oz548 kn1) ?_
              intro a36 ea36 fa36
              have hJ36 := kG_a3 hJ33 63 rfl ea36 fa36 (kd_bd _)
              refine fo_goS mi_k29 fz29_147_2_151 [.int (ig27 3215)] rfl ?_
              exact ft_ret mi_k29 rfl (hP (ig27 3215) _ _ _ _ hJ36 trivial)
            ·
              have c37 : (i7 3206).toInt ≤ (i7 3586).toInt := kd_ltF c; clear c
              refine fo_goS mi_k29 fz29_71_2_73 [.int x1, .ref 50] rfl ?_
              refine ko_callN mi_k29.1 (pc := 73) (ls := [(3, .int l3_7), (2, .int ((a 51).getD x1.toNatClampNeg 0)), (0, .ref 50), (1, .int x1)]) (st := [.int x1, .ref 50]) (h := ks i7 a7 q7 r7) (i := (.invokevirtual 96, 3, 30, 0, 9, 0, 221)) (mi_k29.2 _ _ (by rfl)) (ft_invS mi_pq30 (by rfl)) (cy := mi_c30) mi_pq30 rfl (kc30_50_m hL7.I hL7.R x1 (oz423 fi_3200.2 z5.1 z5.2)) (by decide) ?_
              intro ig38 ag38 qg38 rg38 kg38 hg38
              have hGg38 := kG_call hL7 kg38 (by decide +kernel)
              have s39 : (l3_7 + 1).toInt = l3_7.toInt + (1 : Int32).toInt := kd_add (oz12 p7_0 kn1) (oz561 c22 kn5 kn1)
              first | refine fo_goL mi_k29 fz29_50_2_52 [(3, .int (l3_7 + 1)), (2, .int ((a 51).getD x1.toNatClampNeg 0)), (0, .ref 50), (1, .int x1)] [] (by rfl) ?_ | refine fo_goL mi_k29 fz29_76_2_52 [(3, .int (l3_7 + 1)), (2, .int ((a 51).getD x1.toNatClampNeg 0)), (0, .ref 50), (1, .int x1)] [] (by rfl) ?_
              exact ih7 _ _ _ _ _ hGg38 (oz14 p7_0 s39 kn1) (kj_meas (oz372 s39 kn1) (oz562 c22 kn5) hm7)
      exact lp7 _ _ _ _ _ _ (kG_self _ hJ3.I hJ3.R) (oz46 kn0) (Nat.lt_succ_self _)
    ·
      have c40 : (i 3207).toInt = (0 : Int32).toInt := kd_neF c; clear c
      refine fo_goS mi_k29 fz29_31_3_36 [.int x1, .ref 54] rfl ?_
      refine ko_iald3 mi_k29.1 (n := 8) (c := 8) (ax := (0, 0, 0, 0, 0)) (mi_k29.2 _ _ (by rfl)) (by rfl) (ksG54 _ _ _ _) (hJ3.I.2.1 54) rfl (oz3 z5.1) (oz974 fi_3200.2 z5.2) ?_
      refine fo_goS mi_k29 fz29_37_1_38 [.int 1, .int ((a 54).getD x1.toNatClampNeg 0)] rfl ?_
      refine ft_ifS mi_k29 (((a 54).getD x1.toNatClampNeg 0) != 1) 43 41 [] rfl (fun c => ?_) (fun c => ?_)
      ·
        have c41 : ((a 54).getD x1.toNatClampNeg 0).toInt ≠ (1 : Int32).toInt := kd_ne c; clear c
        refine fo_goS mi_k29 fz29_43_3_48 [.int x1, .ref 51] rfl ?_
        refine ko_iald3 mi_k29.1 (n := 8) (c := 8) (ax := (0, 0, 0, 0, 0)) (mi_k29.2 _ _ (by rfl)) (by rfl) (ksG51 _ _ _ _) (hJ3.I.2.1 51) rfl (oz3 z5.1) (oz974 fi_3200.2 z5.2) ?_
        first | refine fo_goL mi_k29 fz29_49_3_52 [(3, .int 0), (2, .int ((a 51).getD x1.toNatClampNeg 0)), (0, .ref 50), (1, .int x1)] [] (by rfl) ?_ | refine ft_goL mi_k29 3 52 [(3, .int 0), (2, .int ((a 51).getD x1.toNatClampNeg 0)), (0, .ref 50), (1, .int x1)] [] (by rfl) ?_ | refine ft_go mi_k29 3 52 [(3, .int 0), (2, .int ((a 51).getD x1.toNatClampNeg 0)), (0, .ref 50), (1, .int x1)] [] (ku (ku (ku i 3214 8) 3215 0) 3216 0) a q r (by rfl) ?_
        have lp42 : ∀ (nz : Nat) (i42 : Nat → Int32) (a42 : Nat → List Int32) (q42 : Nat → List Int64) (r42 : Nat → Nat) (l3_42 : Int32), kG w29_50_L52_m (ku (ku (ku i 3214 8) 3215 0) 3216 0) a q r i42 a42 q42 r42 → (0 : Int) ≤ l3_42.toInt → ((5 - l3_42.toInt)).toNat < nz → ko 7 (mi_h29, mi_c29) P (52, [(3, .int l3_42), (2, .int ((a 51).getD x1.toNatClampNeg 0)), (0, .ref 50), (1, .int x1)], [], (0, 0), ks i42 a42 q42 r42) := by
          intro nz
          induction nz with
          | zero =>
            intro _ _ _ _ _ _ _ hm
            exact absurd hm (Nat.not_lt_zero _)
          | succ nz ih42 =>
            intro i42 a42 q42 r42 l3_42 hL42 p42_0 hm42
            refine fo_goL mi_k29 fz29_52_2_54 [(3, .int l3_42), (2, .int ((a 51).getD x1.toNatClampNeg 0)), (0, .ref 50), (1, .int x1)] [.int 5, .int l3_42] rfl ?_
            refine ft_ifS mi_k29 (decide (5 ≤ l3_42)) 82 57 [] rfl (fun c => ?_) (fun c => ?_)
            ·
              have c43 : (5 : Int32).toInt ≤ l3_42.toInt := kd_le c; clear c
              have hG44 := kG_call hJ3 hL42 (by decide +kernel)
              refine fo_goS mi_k29 fz29_82_4_86 [.int ((a 51).getD x1.toNatClampNeg 0), .int x1, .ref 50, .ref 50] rfl ?_
              refine ko_callI mi_k29.1 (pc := 86) (ls := [(3, .int l3_42), (2, .int ((a 51).getD x1.toNatClampNeg 0)), (0, .ref 50), (1, .int x1)]) (st := [.int ((a 51).getD x1.toNatClampNeg 0), .int x1, .ref 50, .ref 50]) (h := ks i42 a42 q42 r42) (i := (.invokevirtual 100, 3, 31, 0, 9, 0, 223)) (mi_k29.2 _ _ (by rfl)) (ft_invS mi_pq31 (by rfl)) (cy := mi_c31) mi_pq31 rfl (kc31_50 hG44.I hG44.R x1 ((a 51).getD x1.toNatClampNeg 0) (oz423 fi_3200.2 z5.1 z5.2)) (by decide) ?_
              intro vg45 ig45 ag45 qg45 rg45 kg45 hg45
              have hGg45 := kG_call hG44 kg45 (by decide +kernel)
              have hJ46 := kG_i hGg45 3216 rfl (v := vg45) (kd_bd _)
              first | refine fo_goI mi_k29 fz29_89_6_101 [.int vg45, .int x1, .ref 56] (ku ig45 3216 vg45) (by rfl) ?_ | refine ft_go mi_k29 6 101 [(3, .int l3_42), (2, .int ((a 51).getD x1.toNatClampNeg 0)), (0, .ref 50), (1, .int x1)] [.int vg45, .int x1, .ref 56] (ku ig45 3216 vg45) ag45 qg45 rg45 (by rfl) ?_
              refine ko_callN mi_k29.1 (pc := 101) (ls := [(3, .int l3_42), (2, .int ((a 51).getD x1.toNatClampNeg 0)), (0, .ref 50), (1, .int x1)]) (st := [.int vg45, .int x1, .ref 56]) (h := ks (ku ig45 3216 vg45) ag45 qg45 rg45) (i := (.invokevirtual 104, 3, 1, 0, 9, 0, 228)) (mi_k29.2 _ _ (by rfl)) (ft_invS mi_pq1 (by rfl)) (cy := mi_c1) mi_pq1 rfl (kc1_56_m hJ46.I hJ46.R x1 vg45) (by decide) ?_
              intro ig47 ag47 qg47 rg47 kg47 hg47
              have hGg47 := kG_call hJ46 kg47 (by decide +kernel)
              have b48 : ((-2147483648 : Int) ≤ (ig47 3209).toInt) ∧ ((ig47 3209).toInt ≤ 2147483647) := kd_bd (ig47 3209)
              have hJ49 := kG_i hGg47 3209 rfl (v := ((ig47 3209) + 1)) (kd_bd _)
              first | refine fo_goI mi_k29 fz29_104_10_120 [.int x1, .ref 55, .int x1, .ref 55] (ku ig47 3209 ((ig47 3209) + 1)) (by rfl) ?_ | refine ft_go mi_k29 10 120 [(3, .int l3_42), (2, .int ((a 51).getD x1.toNatClampNeg 0)), (0, .ref 50), (1, .int x1)] [.int x1, .ref 55, .int x1, .ref 55] (ku ig47 3209 ((ig47 3209) + 1)) ag47 qg47 rg47 (by rfl) ?_
              refine ko_iald3 mi_k29.1 (n := 8) (c := 8) (ax := (0, 0, 0, 0, 0)) (mi_k29.2 _ _ (by rfl)) (by rfl) (ksG55 _ _ _ _) (hJ49.I.2.1 55) rfl (oz3 z5.1) (oz974 fi_3200.2 z5.2) ?_
              have b50 : ((-2147483648 : Int) ≤ ((ag47 55).getD x1.toNatClampNeg 0).toInt) ∧ (((ag47 55).getD x1.toNatClampNeg 0).toInt ≤ 2147483647) := kd_bd ((ag47 55).getD x1.toNatClampNeg 0)
              refine fo_goS mi_k29 fz29_121_2_123 [.int (((ag47 55).getD x1.toNatClampNeg 0) + 1), .int x1, .ref 55] rfl ?_
              refine ko_iast3 mi_k29.1 (n := 8) (c := 8) (ax := (0, 0, 0, 0, 0)) (mi_k29.2 _ _ (by rfl)) (by rfl) (ksG55 _ _ _ _) (ksA55 _ _ _ _) (hJ49.I.2.1 55) rfl (oz3 z5.1) (oz974 fi_3200.2 z5.2) ?_
              intro a51 ea51 fa51
              have hJ51 := kG_a3 hJ49 55 rfl ea51 fa51 (kd_bd _)
              refine fo_goS mi_k29 fz29_124_4_130 [.int 0, .ref 63, .int 0, .ref 63] rfl ?_
              refine ko_iald3 mi_k29.1 (n := 5) (c := 5) (ax := (0, 0, 0, 0, 0)) (mi_k29.2 _ _ (by rfl)) (by rfl) (ksG63 _ _ _ _) (hJ51.I.2.1 63) rfl (oz46 kn0) (oz547 kn0) ?_
              have b52 : ((-2147483648 : Int) ≤ ((a51 63).getD (0 : Int32).toNatClampNeg 0).toInt) ∧ (((a51 63).getD (0 : Int32).toNatClampNeg 0).toInt ≤ 2147483647) := kd_bd ((a51 63).getD (0 : Int32).toNatClampNeg 0)
              refine fo_goS mi_k29 fz29_131_2_133 [.int (((a51 63).getD (0 : Int32).toNatClampNeg 0) + 1), .int 0, .ref 63] rfl ?_
              refine ko_iast3 mi_k29.1 (n := 5) (c := 5) (ax := (0, 0, 0, 0, 0)) (mi_k29.2 _ _ (by rfl)) (by rfl) (ksG63 _ _ _ _) (ksA63 _ _ _ _) (hJ51.I.2.1 63) rfl (oz46 kn0) (oz547 kn0) ?_
              intro a53 ea53 fa53
              have hJ53 := kG_a3 hJ51 63 rfl ea53 fa53 (kd_bd _)
              refine fo_goS mi_k29 fz29_134_4_140 [.int 1, .ref 63, .int 1, .ref 63] rfl ?_
              refine ko_iald3 mi_k29.1 (n := 5) (c := 5) (ax := (0, 0, 0, 0, 0)) (mi_k29.2 _ _ (by rfl)) (by rfl) (ksG63 _ _ _ _) (hJ53.I.2.1 63) rfl (oz246 kn1) (oz548 kn1) ?_
              have b54 : ((-2147483648 : Int) ≤ ((a53 63).getD (1 : Int32).toNatClampNeg 0).toInt) ∧ (((a53 63).getD (1 : Int32).toNatClampNeg 0).toInt ≤ 2147483647) := kd_bd ((a53 63).getD (1 : Int32).toNatClampNeg 0)
              have b55 : ((-2147483648 : Int) ≤ (ig47 3215).toInt) ∧ ((ig47 3215).toInt ≤ 2147483647) := kd_bd (ig47 3215)
              refine fo_goS mi_k29 fz29_141_3_146 [.int (((a53 63).getD (1 : Int32).toNatClampNeg 0) + (ig47 3215)), .int 1, .ref 63] rfl ?_
              refine ko_iast3 mi_k29.1 (n := 5) (c := 5) (ax := (0, 0, 0, 0, 0)) (mi_k29.2 _ _ (by rfl)) (by rfl) (ksG63 _ _ _ _) (ksA63 _ _ _ _) (hJ53.I.2.1 63) rfl (oz246 kn1) (oz548 kn1) ?_
              intro a56 ea56 fa56
              have hJ56 := kG_a3 hJ53 63 rfl ea56 fa56 (kd_bd _)
              refine fo_goS mi_k29 fz29_147_2_151 [.int (ig47 3215)] rfl ?_
              exact ft_ret mi_k29 rfl (hP (ig47 3215) _ _ _ _ hJ56 trivial)
            ·
              have c57 : l3_42.toInt < (5 : Int32).toInt := kd_leF c; clear c
              refine fo_goS mi_k29 fz29_57_5_68 [.int (i42 3206), .int (i42 3586)] rfl ?_
              refine ft_ifS mi_k29 (decide ((i42 3586) < (i42 3206))) 82 71 [] rfl (fun c => ?_) (fun c => ?_)
              ·
                have c58 : (i42 3586).toInt < (i42 3206).toInt := kd_lt c; clear c
                have hG59 := kG_call hJ3 hL42 (by decide +kernel)
                refine fo_goS mi_k29 fz29_82_4_86 [.int ((a 51).getD x1.toNatClampNeg 0), .int x1, .ref 50, .ref 50] rfl ?_
                refine ko_callI mi_k29.1 (pc := 86) (ls := [(3, .int l3_42), (2, .int ((a 51).getD x1.toNatClampNeg 0)), (0, .ref 50), (1, .int x1)]) (st := [.int ((a 51).getD x1.toNatClampNeg 0), .int x1, .ref 50, .ref 50]) (h := ks i42 a42 q42 r42) (i := (.invokevirtual 100, 3, 31, 0, 9, 0, 223)) (mi_k29.2 _ _ (by rfl)) (ft_invS mi_pq31 (by rfl)) (cy := mi_c31) mi_pq31 rfl (kc31_50 hG59.I hG59.R x1 ((a 51).getD x1.toNatClampNeg 0) (oz423 fi_3200.2 z5.1 z5.2)) (by decide) ?_
                intro vg60 ig60 ag60 qg60 rg60 kg60 hg60
                have hGg60 := kG_call hG59 kg60 (by decide +kernel)
                have hJ61 := kG_i hGg60 3216 rfl (v := vg60) (kd_bd _)
                first | refine fo_goI mi_k29 fz29_89_6_101 [.int vg60, .int x1, .ref 56] (ku ig60 3216 vg60) (by rfl) ?_ | refine ft_go mi_k29 6 101 [(3, .int l3_42), (2, .int ((a 51).getD x1.toNatClampNeg 0)), (0, .ref 50), (1, .int x1)] [.int vg60, .int x1, .ref 56] (ku ig60 3216 vg60) ag60 qg60 rg60 (by rfl) ?_
                refine ko_callN mi_k29.1 (pc := 101) (ls := [(3, .int l3_42), (2, .int ((a 51).getD x1.toNatClampNeg 0)), (0, .ref 50), (1, .int x1)]) (st := [.int vg60, .int x1, .ref 56]) (h := ks (ku ig60 3216 vg60) ag60 qg60 rg60) (i := (.invokevirtual 104, 3, 1, 0, 9, 0, 228)) (mi_k29.2 _ _ (by rfl)) (ft_invS mi_pq1 (by rfl)) (cy := mi_c1) mi_pq1 rfl (kc1_56_m hJ61.I hJ61.R x1 vg60) (by decide) ?_
                intro ig62 ag62 qg62 rg62 kg62 hg62
                have hGg62 := kG_call hJ61 kg62 (by decide +kernel)
                have b63 : ((-2147483648 : Int) ≤ (ig62 3209).toInt) ∧ ((ig62 3209).toInt ≤ 2147483647) := kd_bd (ig62 3209)
                have hJ64 := kG_i hGg62 3209 rfl (v := ((ig62 3209) + 1)) (kd_bd _)
                first | refine fo_goI mi_k29 fz29_104_10_120 [.int x1, .ref 55, .int x1, .ref 55] (ku ig62 3209 ((ig62 3209) + 1)) (by rfl) ?_ | refine ft_go mi_k29 10 120 [(3, .int l3_42), (2, .int ((a 51).getD x1.toNatClampNeg 0)), (0, .ref 50), (1, .int x1)] [.int x1, .ref 55, .int x1, .ref 55] (ku ig62 3209 ((ig62 3209) + 1)) ag62 qg62 rg62 (by rfl) ?_
                refine ko_iald3 mi_k29.1 (n := 8) (c := 8) (ax := (0, 0, 0, 0, 0)) (mi_k29.2 _ _ (by rfl)) (by rfl) (ksG55 _ _ _ _) (hJ64.I.2.1 55) rfl (oz3 z5.1) (oz974 fi_3200.2 z5.2) ?_
                have b65 : ((-2147483648 : Int) ≤ ((ag62 55).getD x1.toNatClampNeg 0).toInt) ∧ (((ag62 55).getD x1.toNatClampNeg 0).toInt ≤ 2147483647) := kd_bd ((ag62 55).getD x1.toNatClampNeg 0)
                refine fo_goS mi_k29 fz29_121_2_123 [.int (((ag62 55).getD x1.toNatClampNeg 0) + 1), .int x1, .ref 55] rfl ?_
                refine ko_iast3 mi_k29.1 (n := 8) (c := 8) (ax := (0, 0, 0, 0, 0)) (mi_k29.2 _ _ (by rfl)) (by rfl) (ksG55 _ _ _ _) (ksA55 _ _ _ _) (hJ64.I.2.1 55) rfl (oz3 z5.1) (oz974 fi_3200.2 z5.2) ?_
                intro a66 ea66 fa66
                have hJ66 := kG_a3 hJ64 55 rfl ea66 fa66 (kd_bd _)
                refine fo_goS mi_k29 fz29_124_4_130 [.int 0, .ref 63, .int 0, .ref 63] rfl ?_
                refine ko_iald3 mi_k29.1 (n := 5) (c := 5) (ax := (0, 0, 0, 0, 0)) (mi_k29.2 _ _ (by rfl)) (by rfl) (ksG63 _ _ _ _) (hJ66.I.2.1 63) rfl (oz46 kn0) (oz547 kn0) ?_
                have b67 : ((-2147483648 : Int) ≤ ((a66 63).getD (0 : Int32).toNatClampNeg 0).toInt) ∧ (((a66 63).getD (0 : Int32).toNatClampNeg 0).toInt ≤ 2147483647) := kd_bd ((a66 63).getD (0 : Int32).toNatClampNeg 0)
                refine fo_goS mi_k29 fz29_131_2_133 [.int (((a66 63).getD (0 : Int32).toNatClampNeg 0) + 1), .int 0, .ref 63] rfl ?_
                refine ko_iast3 mi_k29.1 (n := 5) (c := 5) (ax := (0, 0, 0, 0, 0)) (mi_k29.2 _ _ (by rfl)) (by rfl) (ksG63 _ _ _ _) (ksA63 _ _ _ _) (hJ66.I.2.1 63) rfl (oz46 kn0) (oz547 kn0) ?_
                intro a68 ea68 fa68
                have hJ68 := kG_a3 hJ66 63 rfl ea68 fa68 (kd_bd _)
                refine fo_goS mi_k29 fz29_134_4_140 [.int 1, .ref 63, .int 1, .ref 63] rfl ?_
                refine ko_iald3 mi_k29.1 (n := 5) (c := 5) (ax := (0, 0, 0, 0, 0)) (mi_k29.2 _ _ (by rfl)) (by rfl) (ksG63 _ _ _ _) (hJ68.I.2.1 63) rfl (oz246 kn1) (oz548 kn1) ?_
                have b69 : ((-2147483648 : Int) ≤ ((a68 63).getD (1 : Int32).toNatClampNeg 0).toInt) ∧ (((a68 63).getD (1 : Int32).toNatClampNeg 0).toInt ≤ 2147483647) := kd_bd ((a68 63).getD (1 : Int32).toNatClampNeg 0)
                have b70 : ((-2147483648 : Int) ≤ (ig62 3215).toInt) ∧ ((ig62 3215).toInt ≤ 2147483647) := kd_bd (ig62 3215)
                refine fo_goS mi_k29 fz29_141_3_146 [.int (((a68 63).getD (1 : Int32).toNatClampNeg 0) + (ig62 3215)), .int 1, .ref 63] rfl ?_
                refine ko_iast3 mi_k29.1 (n := 5) (c := 5) (ax := (0, 0, 0, 0, 0)) (mi_k29.2 _ _ (by rfl)) (by rfl) (ksG63 _ _ _ _) (ksA63 _ _ _ _) (hJ68.I.2.1 63) rfl (oz246 kn1) (oz548 kn1) ?_
                intro a71 ea71 fa71
                have hJ71 := kG_a3 hJ68 63 rfl ea71 fa71 (kd_bd _)
                refine fo_goS mi_k29 fz29_147_2_151 [.int (ig62 3215)] rfl ?_
                exact ft_ret mi_k29 rfl (hP (ig62 3215) _ _ _ _ hJ71 trivial)
              ·
                have c72 : (i42 3206).toInt ≤ (i42 3586).toInt := kd_ltF c; clear c
                refine fo_goS mi_k29 fz29_71_2_73 [.int x1, .ref 50] rfl ?_
                refine ko_callN mi_k29.1 (pc := 73) (ls := [(3, .int l3_42), (2, .int ((a 51).getD x1.toNatClampNeg 0)), (0, .ref 50), (1, .int x1)]) (st := [.int x1, .ref 50]) (h := ks i42 a42 q42 r42) (i := (.invokevirtual 96, 3, 30, 0, 9, 0, 221)) (mi_k29.2 _ _ (by rfl)) (ft_invS mi_pq30 (by rfl)) (cy := mi_c30) mi_pq30 rfl (kc30_50_m hL42.I hL42.R x1 (oz423 fi_3200.2 z5.1 z5.2)) (by decide) ?_
                intro ig73 ag73 qg73 rg73 kg73 hg73
                have hGg73 := kG_call hL42 kg73 (by decide +kernel)
                have s74 : (l3_42 + 1).toInt = l3_42.toInt + (1 : Int32).toInt := kd_add (oz12 p42_0 kn1) (oz561 c57 kn5 kn1)
                first | refine fo_goL mi_k29 fz29_50_2_52 [(3, .int (l3_42 + 1)), (2, .int ((a 51).getD x1.toNatClampNeg 0)), (0, .ref 50), (1, .int x1)] [] (by rfl) ?_ | refine fo_goL mi_k29 fz29_76_2_52 [(3, .int (l3_42 + 1)), (2, .int ((a 51).getD x1.toNatClampNeg 0)), (0, .ref 50), (1, .int x1)] [] (by rfl) ?_
                exact ih42 _ _ _ _ _ hGg73 (oz14 p42_0 s74 kn1) (kj_meas (oz372 s74 kn1) (oz562 c57 kn5) hm42)
        exact lp42 _ _ _ _ _ _ (kG_self _ hJ3.I hJ3.R) (oz46 kn0) (Nat.lt_succ_self _)
      ·
        have c75 : ((a 54).getD x1.toNatClampNeg 0).toInt = (1 : Int32).toInt := kd_neF c; clear c
        refine fo_goS mi_k29 fz29_41_1_42 [.int 0] rfl ?_
        exact ft_ret mi_k29 rfl (hP 0 _ _ _ _ hJ3 trivial)
  ·
    subst eg4
    first | refine fo_goS mi_k29 fz29_21_2_42 [.int 0] (by rfl) ?_ | refine ft_goS mi_k29 2 42 [.int 0] (by rfl) ?_ | refine ft_go mi_k29 2 42 [(0, .ref 50), (1, .int x1)] [.int 0] (ku (ku (ku i 3214 8) 3215 0) 3216 0) a q r (by rfl) ?_
    exact ft_ret mi_k29 rfl (hP 0 _ _ _ _ hJ3 trivial)
def w60_49_m : kW := ([645, 3209, 3214, 3215, 3216, 3586, 3781, 6405], [13, 51, 55, 57, 58, 62, 63, 65, 66, 67, 68, 69, 70, 71, 72, 73, 75, 76, 77, 103], [], [])
def w60_49_L2_m : kW := ([645, 3209, 3214, 3215, 3216, 3586, 3781, 6405], [13, 51, 55, 57, 58, 62, 63, 65, 66, 67, 68, 69, 70, 71, 72, 73, 75, 76, 77, 103], [], [])
set_option maxRecDepth 100000 in
theorem kc60_49_m {i : Nat → Int32} {a : Nat → List Int32} {q : Nat → List Int64} {r : Nat → Nat} (hI : kI i a q) (hr : kr r)  : km 9 60 [.ref 49] (ks i a q r) (kVN w60_49_m i a q r (fun i1 a1 q1 r1 => True)) := by
  have hG := kG_self w60_49_m hI hr
  refine km_ofN (q := (mi_h60, mi_c60)) rfl (by decide) (Nat.le_of_ble_eq_true rfl) ?_
  intro P hP
  first | refine fo_goL mi_k60 fz60_0_2_2 [(1, .int 0), (0, .ref 49)] [] (by rfl) ?_ | refine fo_goL mi_k60 fz60_61_2_2 [(1, .int 0), (0, .ref 49)] [] (by rfl) ?_
  have lp1 : ∀ (nz : Nat) (i1 : Nat → Int32) (a1 : Nat → List Int32) (q1 : Nat → List Int64) (r1 : Nat → Nat) (l1_1 : Int32), kG w60_49_L2_m i a q r i1 a1 q1 r1 → (0 : Int) ≤ l1_1.toInt → ((20 - l1_1.toInt)).toNat < nz → ko 9 (mi_h60, mi_c60) P (2, [(1, .int l1_1), (0, .ref 49)], [], (0, 0), ks i1 a1 q1 r1) := by
    intro nz
    induction nz with
    | zero =>
      intro _ _ _ _ _ _ _ hm
      exact absurd hm (Nat.not_lt_zero _)
    | succ nz ih1 =>
      intro i1 a1 q1 r1 l1_1 hL1 p1_0 hm1
      have fi1_3138 : ((0 : Int) ≤ (i1 3138).toInt) ∧ ((i1 3138).toInt ≤ 20) := hL1.I.1 3138
      refine fo_goL mi_k60 fz60_2_3_7 [(1, .int l1_1), (0, .ref 49)] [.int (i1 3138), .int l1_1] rfl ?_
      refine ft_ifS mi_k60 (decide ((i1 3138) ≤ l1_1)) 67 10 [] rfl (fun c => ?_) (fun c => ?_)
      ·
        have c2 : (i1 3138).toInt ≤ l1_1.toInt := kd_le c; clear c
        have hG3 := kG_call hG hL1 (by decide +kernel)
        exact ft_ret mi_k60 rfl (hP  _ _ _ _ hG3 trivial)
      ·
        have c4 : l1_1.toInt < (i1 3138).toInt := kd_leF c; clear c
        refine fo_goS mi_k60 fz60_10_2_13 [.int 20, .int l1_1] rfl ?_
        refine ft_ifS mi_k60 (decide (20 ≤ l1_1)) 67 16 [] rfl (fun c => ?_) (fun c => ?_)
        ·
          have c5 : (20 : Int32).toInt ≤ l1_1.toInt := kd_le c; clear c
          exact (oz1031 c4 c5 fi1_3138.2 kn20).elim
        ·
          have c6 : l1_1.toInt < (20 : Int32).toInt := kd_leF c; clear c
          refine fo_goS mi_k60 fz60_16_8_30 [.int l1_1, .ref 74, .ref 50, .int l1_1, .ref 76] rfl ?_
          refine ko_iald3 mi_k60.1 (n := 20) (c := 20) (ax := (0, 0, 0, 0, 0)) (mi_k60.2 _ _ (by rfl)) (by rfl) (ksG74 _ _ _ _) (hL1.I.2.1 74) rfl (oz3 p1_0) (oz1013 c6 kn20) ?_
          refine ko_callI mi_k60.1 (pc := 31) (ls := [(1, .int l1_1), (0, .ref 49)]) (st := [.int ((a1 74).getD l1_1.toNatClampNeg 0), .ref 50, .int l1_1, .ref 76]) (h := ks i1 a1 q1 r1) (i := (.invokevirtual 63, 3, 29, 0, 9, 0, 220)) (mi_k60.2 _ _ (by rfl)) (ft_invS mi_pq29 (by rfl)) (cy := mi_c29) mi_pq29 rfl (kc29_50_m hL1.I hL1.R ((a1 74).getD l1_1.toNatClampNeg 0)) (by decide) ?_
          intro vg7 ig7 ag7 qg7 rg7 kg7 hg7
          have hGg7 := kG_call hL1 kg7 (by decide +kernel)
          refine ko_iast3 mi_k60.1 (n := 20) (c := 20) (ax := (0, 0, 0, 0, 0)) (mi_k60.2 _ _ (by rfl)) (by rfl) (ksG76 _ _ _ _) (ksA76 _ _ _ _) (hGg7.I.2.1 76) rfl (oz3 p1_0) (oz1013 c6 kn20) ?_
          intro a8 ea8 fa8
          have hJ8 := kG_a3 hGg7 76 rfl ea8 fa8 (kd_bd _)
          refine fo_goS mi_k60 fz60_35_6_47 [.int (ig7 3214), .int l1_1, .ref 75] rfl ?_
          refine ko_iast3 mi_k60.1 (n := 20) (c := 20) (ax := (0, 0, 0, 0, 0)) (mi_k60.2 _ _ (by rfl)) (by rfl) (ksG75 _ _ _ _) (ksA75 _ _ _ _) (hJ8.I.2.1 75) rfl (oz3 p1_0) (oz1013 c6 kn20) ?_
          intro a9 ea9 fa9
          have hJ9 := kG_a3 hJ8 75 rfl ea9 fa9 (kd_bd _)
          refine fo_goS mi_k60 fz60_48_6_60 [.int (ig7 3216), .int l1_1, .ref 77] rfl ?_
          refine ko_iast3 mi_k60.1 (n := 20) (c := 20) (ax := (0, 0, 0, 0, 0)) (mi_k60.2 _ _ (by rfl)) (by rfl) (ksG77 _ _ _ _) (ksA77 _ _ _ _) (hJ9.I.2.1 77) rfl (oz3 p1_0) (oz1013 c6 kn20) ?_
          intro a10 ea10 fa10
          have hJ10 := kG_a3 hJ9 77 rfl ea10 fa10 (kd_bd _)
          have s11 : (l1_1 + 1).toInt = l1_1.toInt + (1 : Int32).toInt := kd_add (oz12 p1_0 kn1) (oz1014 c6 kn20 kn1)
          first | refine fo_goL mi_k60 fz60_0_2_2 [(1, .int (l1_1 + 1)), (0, .ref 49)] [] (by rfl) ?_ | refine fo_goL mi_k60 fz60_61_2_2 [(1, .int (l1_1 + 1)), (0, .ref 49)] [] (by rfl) ?_
          exact ih1 _ _ _ _ _ hJ10 (oz14 p1_0 s11 kn1) (kj_meas (oz218 s11 kn1) (oz225 c6 kn20) hm1)
  exact lp1 _ _ _ _ _ _ (kG_self _ hG.I hG.R) (oz46 kn0) (Nat.lt_succ_self _)
def w59_49_1_m : kW := ([645, 3200, 3206, 3207, 3208, 3209, 3214, 3215, 3216, 3586, 3781, 6405], [13, 51, 52, 53, 54, 55, 57, 58, 62, 63, 65, 66, 67, 68, 69, 70, 71, 72, 73, 75, 76, 77, 103], [], [1])
set_option maxRecDepth 100000 in
theorem kc59_49_1_m {i : Nat → Int32} {a : Nat → List Int32} {q : Nat → List Int64} {r : Nat → Nat} (hI : kI i a q) (hr : kr r)  : km 11 59 [.ref 49, .ref 1] (ks i a q r) (kVN w59_49_1_m i a q r (fun i1 a1 q1 r1 => True)) := by
  have hG := kG_self w59_49_1_m hI hr
  refine km_ofN (q := (mi_h59, mi_c59)) rfl (by decide) (Nat.le_of_ble_eq_true rfl) ?_
  intro P hP
  refine fo_goL mi_k59 fz59_0_3_5 [(0, .ref 49), (1, .ref 1)] [.ref 1, .ref 50] rfl ?_
  refine ko_callN mi_k59.1 (pc := 5) (ls := [(0, .ref 49), (1, .ref 1)]) (st := [.ref 1, .ref 50]) (h := ks i a q r) (i := (.invokevirtual 56, 3, 34, 0, 9, 0, 212)) (mi_k59.2 _ _ (by rfl)) (ft_invS mi_pq34 (by rfl)) (cy := mi_c34) mi_pq34 rfl (kc34_50_1 hG.I hG.R ) (by decide) ?_
  intro ig1 ag1 qg1 rg1 kg1 hg1
  have hGg1 := kG_call hG kg1 (by decide +kernel)
  refine fo_goS mi_k59 fz59_8_1_9 [.ref 49] rfl ?_
  refine ko_callN mi_k59.1 (pc := 9) (ls := [(0, .ref 49), (1, .ref 1)]) (st := [.ref 49]) (h := ks ig1 ag1 qg1 rg1) (i := (.invokevirtual 60, 3, 60, 0, 9, 0, 219)) (mi_k59.2 _ _ (by rfl)) (ft_invS mi_pq60 (by rfl)) (cy := mi_c60) mi_pq60 rfl (kc60_49_m hGg1.I hGg1.R ) (by decide) ?_
  intro ig2 ag2 qg2 rg2 kg2 hg2
  have hGg2 := kG_call hGg1 kg2 (by decide +kernel)
  exact ft_ret mi_k59 rfl (hP  _ _ _ _ hGg2 trivial)
set_option maxRecDepth 100000 in
theorem kc26_50_m {i : Nat → Int32} {a : Nat → List Int32} {q : Nat → List Int64} {r : Nat → Nat} (hI : kI i a q) (hr : kr r) (x1 : Int32) : km 1 26 [.ref 50, .int x1] (ks i a q r) (kPR (ks i a q r) (fun v => (v = 51 ∧ True) ∨ (v = 52 ∧ True) ∨ (v = 53 ∧ True) ∨ (v = 54 ∧ True))) := by
  have hG := kG_self kW0 hI hr
  refine km_ofPR (q := (mi_h26, mi_c26)) rfl (by decide) (Nat.le_of_ble_eq_true rfl) ?_
  intro P hP
  refine fo_goL mi_k26 fz26_0_1_1 [(0, .ref 50), (1, .int x1)] [.int x1] rfl ?_
  by_cases w1 : x1.toInt = 0
  ·
    refine ft_swx mi_k26 (pc := 1) (v := 0) (t := 28) (kj_eq w1 (by decide) : x1 = 0) (by decide +kernel) ?_
    refine fo_goS mi_k26 fz26_28_2_32 [.ref 51] rfl ?_
    exact ft_ret mi_k26 rfl (hP 51 (Or.inl ⟨rfl, trivial⟩))
  by_cases w2 : x1.toInt = 1
  ·
    refine ft_swx mi_k26 (pc := 1) (v := 1) (t := 33) (kj_eq w2 (by decide) : x1 = 1) (by decide +kernel) ?_
    refine fo_goS mi_k26 fz26_33_2_37 [.ref 52] rfl ?_
    exact ft_ret mi_k26 rfl (hP 52 (Or.inr (Or.inl ⟨rfl, trivial⟩)))
  by_cases w3 : x1.toInt = 2
  ·
    refine ft_swx mi_k26 (pc := 1) (v := 2) (t := 38) (kj_eq w3 (by decide) : x1 = 2) (by decide +kernel) ?_
    refine fo_goS mi_k26 fz26_38_2_42 [.ref 53] rfl ?_
    exact ft_ret mi_k26 rfl (hP 53 (Or.inr (Or.inr (Or.inl ⟨rfl, trivial⟩))))
  refine ko_sw (ls := [(0, .ref 50), (1, .int x1)]) (r := []) (h := ks i a q r) mi_in26 (v := x1) (i := (.tableswitch 42 0 2 #[27, 32, 37], 27, 0, 0, 0, 0, 0)) (by rfl) rfl (oz973 w1 w2 w3) 43 (by rfl) ?_
  refine fo_goS mi_k26 fz26_43_2_47 [.ref 54] rfl ?_
  exact ft_ret mi_k26 rfl (hP 54 (Or.inr (Or.inr (Or.inr (⟨rfl, trivial⟩)))))
set_option maxRecDepth 100000 in
theorem kc27_50_m {i : Nat → Int32} {a : Nat → List Int32} {q : Nat → List Int64} {r : Nat → Nat} (hI : kI i a q) (hr : kr r) (x1 : Int32) (x2 : Int32) : km 3 27 [.ref 50, .int x1, .int x2] (ks i a q r) (kPI (ks i a q r) (fun v => True)) := by
  have hG := kG_self kW0 hI hr
  refine km_ofPI (q := (mi_h27, mi_c27)) rfl (by decide) (Nat.le_of_ble_eq_true rfl) ?_
  intro P hP
  refine fo_goL mi_k27 fz27_0_1_1 [(0, .ref 50), (1, .int x1), (2, .int x2)] [.int x2] rfl ?_
  by_cases w1 : x2.toInt = 4
  ·
    refine ft_swx mi_k27 (pc := 1) (v := 4) (t := 28) (kj_eq w1 (by decide) : x2 = 4) (by decide +kernel) ?_
    refine fo_goS mi_k27 fz27_28_2_32 [.int (i 3206)] rfl ?_
    exact ft_ret mi_k27 rfl (hP (i 3206) trivial)
  by_cases w2 : x2.toInt = 5
  ·
    refine ft_swx mi_k27 (pc := 1) (v := 5) (t := 33) (kj_eq w2 (by decide) : x2 = 5) (by decide +kernel) ?_
    refine fo_goS mi_k27 fz27_33_2_37 [.int (i 3207)] rfl ?_
    exact ft_ret mi_k27 rfl (hP (i 3207) trivial)
  by_cases w3 : x2.toInt = 6
  ·
    refine ft_swx mi_k27 (pc := 1) (v := 6) (t := 38) (kj_eq w3 (by decide) : x2 = 6) (by decide +kernel) ?_
    refine fo_goS mi_k27 fz27_38_2_42 [.int (i 3208)] rfl ?_
    exact ft_ret mi_k27 rfl (hP (i 3208) trivial)
  refine ko_sw (ls := [(0, .ref 50), (1, .int x1), (2, .int x2)]) (r := []) (h := ks i a q r) mi_in27 (v := x2) (i := (.tableswitch 42 4 6 #[27, 32, 37], 27, 0, 0, 0, 0, 0)) (by rfl) rfl (oz972 w1 w2 w3) 43 (by rfl) ?_
  refine fo_goS mi_k27 fz27_43_2_45 [.int x1, .ref 50] rfl ?_
  refine ko_callPI mi_k27.1 (pc := 45) (ls := [(0, .ref 50), (1, .int x1), (2, .int x2)]) (st := [.int x1, .ref 50]) (h := ks i a q r) (i := (.invokevirtual 85, 3, 24, 0, 9, 0, 165)) (mi_k27.2 _ _ (by rfl)) (ft_invS mi_pq24 (by rfl)) (cy := mi_c24) mi_pq24 rfl (kc24_50 hG.I hG.R x1) (by decide) ?_
  intro vg4 hg4
  rcases hg4 with ⟨eg4, hg4⟩ | ⟨eg4, hg4⟩
  ·
    subst eg4
    have fi_3200 : ((0 : Int) ≤ (i 3200).toInt) ∧ ((i 3200).toInt ≤ 8) := hG.I.1 3200
    have z5 : ((0 : Int) ≤ x1.toInt) ∧ (x1.toInt < (i 3200).toInt) := hg4
    refine fo_goS mi_k27 fz27_48_3_53 [.int x2, .ref 50] rfl ?_
    refine ko_callPR mi_k27.1 (pc := 53) (ls := [(0, .ref 50), (1, .int x1), (2, .int x2)]) (st := [.int x2, .ref 50]) (h := ks i a q r) (i := (.invokevirtual 89, 3, 26, 0, 9, 0, 166)) (mi_k27.2 _ _ (by rfl)) (ft_invS mi_pq26 (by rfl)) (cy := mi_c26) mi_pq26 rfl (kc26_50_m hG.I hG.R x2) (by decide) ?_
    intro vg6 hg6
    rcases hg6 with ⟨eg6, hg6⟩ | ⟨eg6, hg6⟩ | ⟨eg6, hg6⟩ | ⟨eg6, hg6⟩
    ·
      subst eg6
      refine fo_goS mi_k27 fz27_56_1_57 [.int x1, .ref 51] rfl ?_
      refine ko_iald3 mi_k27.1 (n := 8) (c := 8) (ax := (0, 0, 0, 0, 0)) (mi_k27.2 _ _ (by rfl)) (by rfl) (ksG51 _ _ _ _) (hG.I.2.1 51) rfl (oz3 z5.1) (oz974 fi_3200.2 z5.2) ?_
      first | refine fo_goS mi_k27 fz27_58_1_62 [.int ((a 51).getD x1.toNatClampNeg 0)] (by rfl) ?_ | refine fo_goS mi_k27 fz27_61_1_62 [.int ((a 51).getD x1.toNatClampNeg 0)] (by rfl) ?_
      exact ft_ret mi_k27 rfl (hP ((a 51).getD x1.toNatClampNeg 0) trivial)
    ·
      subst eg6
      refine fo_goS mi_k27 fz27_56_1_57 [.int x1, .ref 52] rfl ?_
      refine ko_iald3 mi_k27.1 (n := 8) (c := 8) (ax := (0, 0, 0, 0, 0)) (mi_k27.2 _ _ (by rfl)) (by rfl) (ksG52 _ _ _ _) (hG.I.2.1 52) rfl (oz3 z5.1) (oz974 fi_3200.2 z5.2) ?_
      first | refine fo_goS mi_k27 fz27_58_1_62 [.int ((a 52).getD x1.toNatClampNeg 0)] (by rfl) ?_ | refine fo_goS mi_k27 fz27_61_1_62 [.int ((a 52).getD x1.toNatClampNeg 0)] (by rfl) ?_
      exact ft_ret mi_k27 rfl (hP ((a 52).getD x1.toNatClampNeg 0) trivial)
    ·
      subst eg6
      refine fo_goS mi_k27 fz27_56_1_57 [.int x1, .ref 53] rfl ?_
      refine ko_iald3 mi_k27.1 (n := 8) (c := 8) (ax := (0, 0, 0, 0, 0)) (mi_k27.2 _ _ (by rfl)) (by rfl) (ksG53 _ _ _ _) (hG.I.2.1 53) rfl (oz3 z5.1) (oz974 fi_3200.2 z5.2) ?_
      first | refine fo_goS mi_k27 fz27_58_1_62 [.int ((a 53).getD x1.toNatClampNeg 0)] (by rfl) ?_ | refine fo_goS mi_k27 fz27_61_1_62 [.int ((a 53).getD x1.toNatClampNeg 0)] (by rfl) ?_
      exact ft_ret mi_k27 rfl (hP ((a 53).getD x1.toNatClampNeg 0) trivial)
    ·
      subst eg6
      refine fo_goS mi_k27 fz27_56_1_57 [.int x1, .ref 54] rfl ?_
      refine ko_iald3 mi_k27.1 (n := 8) (c := 8) (ax := (0, 0, 0, 0, 0)) (mi_k27.2 _ _ (by rfl)) (by rfl) (ksG54 _ _ _ _) (hG.I.2.1 54) rfl (oz3 z5.1) (oz974 fi_3200.2 z5.2) ?_
      first | refine fo_goS mi_k27 fz27_58_1_62 [.int ((a 54).getD x1.toNatClampNeg 0)] (by rfl) ?_ | refine fo_goS mi_k27 fz27_61_1_62 [.int ((a 54).getD x1.toNatClampNeg 0)] (by rfl) ?_
      exact ft_ret mi_k27 rfl (hP ((a 54).getD x1.toNatClampNeg 0) trivial)
  ·
    subst eg4
    first | refine fo_goS mi_k27 fz27_48_2_62 [.int (-1)] (by rfl) ?_ | refine ft_goS mi_k27 2 62 [.int (-1)] (by rfl) ?_ | refine ft_go mi_k27 2 62 [(0, .ref 50), (1, .int x1), (2, .int x2)] [.int (-1)] i a q r (by rfl) ?_
    exact ft_ret mi_k27 rfl (hP (-1) trivial)
def w88_0_m : kW := ([645, 3138, 3200, 3206, 3207, 3208, 3209, 3214, 3215, 3216, 3586, 3781, 6405], [13, 51, 52, 53, 54, 55, 57, 58, 62, 63, 65, 66, 67, 68, 69, 70, 71, 72, 73, 74, 75, 76, 77, 103], [], [1])
set_option maxRecDepth 100000 in
theorem kc88_0_m {i : Nat → Int32} {a : Nat → List Int32} {q : Nat → List Int64} {r : Nat → Nat} (hI : kI i a q) (hr : kr r) (x1 : Int32) (x2 : Int32) (x3 : Int32) : km 13 88 [.ref 0, .int x1, .int x2, .int x3] (ks i a q r) (kVI w88_0_m i a q r (fun v i1 a1 q1 r1 => True)) := by
  have hG := kG_self w88_0_m hI hr
  refine km_ofI (q := (mi_h88, mi_c88)) rfl (by decide) (Nat.le_of_ble_eq_true rfl) ?_
  intro P hP
  refine fo_goL mi_k88 fz88_0_3_3 [(0, .ref 0), (1, .int x1), (2, .int x2), (3, .int x3)] [.int 3, .int 0, .int x3] rfl ?_
  refine ko_callPI mi_k88.1 (pc := 3) (ls := [(0, .ref 0), (1, .int x1), (2, .int x2), (3, .int x3)]) (st := [.int 3, .int 0, .int x3]) (h := ks i a q r) (i := (.invokestatic 74, 3, 120, 0, 9, 0, 152)) (mi_k88.2 _ _ (by rfl)) (ft_invS mi_pq120 (by rfl)) (cy := mi_c120) mi_pq120 rfl (kc120 hG.I hG.R x3 0 3) (by decide) ?_
  intro vg1 hg1
  rcases hg1 with ⟨eg1, hg1⟩ | ⟨eg1, hg1⟩
  ·
    subst eg1
    have z2 : ((0 : Int32).toInt ≤ x3.toInt) ∧ (x3.toInt ≤ (3 : Int32).toInt) := hg1
    refine fo_goS mi_k88 fz88_6_3_11 [.int 3, .int x3] rfl ?_
    refine ft_ifS mi_k88 (x3 != 3) 25 14 [] rfl (fun c => ?_) (fun c => ?_)
    ·
      have c3 : x3.toInt ≠ (3 : Int32).toInt := kd_ne c; clear c
      refine fo_goS mi_k88 fz88_25_1_26 [.int x2] rfl ?_
      refine ft_ifS mi_k88 (x2 == 0) 31 29 [] rfl (fun c => ?_) (fun c => ?_)
      ·
        have c4 : x2.toInt = (0 : Int32).toInt := kd_eq c; clear c
        refine fo_goS mi_k88 fz88_31_2_33 [.int x1, .ref 0] rfl ?_
        refine ko_callI mi_k88.1 (pc := 33) (ls := [(0, .ref 0), (1, .int x1), (2, .int x2), (3, .int x3)]) (st := [.int x1, .ref 0]) (h := ks i a q r) (i := (.invokevirtual 144, 3, 129, 0, 9, 0, 208)) (mi_k88.2 _ _ (by rfl)) (ft_invS mi_pq129 (by rfl)) (cy := mi_c129) mi_pq129 rfl (kc129_0 hG.I hG.R x1) (by decide) ?_
        intro vg5 ig5 ag5 qg5 rg5 kg5 hg5
        have hGg5 := kG_call hG kg5 (by decide +kernel)
        refine fo_goL mi_k88 fz88_36_2_40 [(4, .int vg5), (0, .ref 0), (1, .int x1), (2, .int x2), (3, .int x3)] [.int vg5] rfl ?_
        refine ft_ifS mi_k88 (decide (0 ≤ vg5)) 46 43 [] rfl (fun c => ?_) (fun c => ?_)
        ·
          have c7 : (0 : Int32).toInt ≤ vg5.toInt := kd_le c; clear c
          refine fo_goS mi_k88 fz88_46_4_54 [.ref 1, .ref 49] rfl ?_
          refine ko_callN mi_k88.1 (pc := 54) (ls := [(4, .int vg5), (0, .ref 0), (1, .int x1), (2, .int x2), (3, .int x3)]) (st := [.ref 1, .ref 49]) (h := ks ig5 ag5 qg5 rg5) (i := (.invokevirtual 147, 3, 59, 0, 9, 0, 211)) (mi_k88.2 _ _ (by rfl)) (ft_invS mi_pq59 (by rfl)) (cy := mi_c59) mi_pq59 rfl (kc59_49_1_m hGg5.I hGg5.R ) (by decide) ?_
          intro ig8 ag8 qg8 rg8 kg8 hg8
          have hGg8 := kG_call hGg5 kg8 (by decide +kernel)
          refine fo_goS mi_k88 fz88_57_1_58 [.int x3] rfl ?_
          by_cases w9 : x3.toInt = 0
          ·
            refine ko_eq (x1 := (58, [(4, .int vg5), (0, .ref 0), (1, .int x1), (2, .int x2), (3, .int x3)], [.int 0], (0, 0), ks ig8 ag8 qg8 rg8)) (by rw [(kj_eq w9 (by decide) : x3 = 0)]) ?_
            first | refine ft_goS mi_k88 4 91 [.int (ig8 3138)] (by rfl) ?_ | refine ft_go mi_k88 4 91 [(4, .int vg5), (0, .ref 0), (1, .int x1), (2, .int x2), (3, .int x3)] [.int (ig8 3138)] ig8 ag8 qg8 rg8 (by rfl) ?_
            exact ft_ret mi_k88 rfl (hP (ig8 3138) _ _ _ _ hGg8 trivial)
          by_cases w10 : x3.toInt = 1
          ·
            refine ft_swx mi_k88 (pc := 58) (v := 1) (t := 92) (kj_eq w10 (by decide) : x3 = 1) (by decide +kernel) ?_
            refine fo_goS mi_k88 fz88_92_5_103 [.int 2, .ref 63] rfl ?_
            refine ko_iald3 mi_k88.1 (n := 5) (c := 5) (ax := (0, 0, 0, 0, 0)) (mi_k88.2 _ _ (by rfl)) (by rfl) (ksG63 _ _ _ _) (hGg8.I.2.1 63) rfl (oz256 kn2) (oz549 kn2) ?_
            exact ft_ret mi_k88 rfl (hP ((ag8 63).getD (2 : Int32).toNatClampNeg 0) _ _ _ _ hGg8 trivial)
          by_cases w11 : x3.toInt = 2
          ·
            refine ko_eq (x1 := (58, [(4, .int vg5), (0, .ref 0), (1, .int x1), (2, .int x2), (3, .int x3)], [.int 2], (0, 0), ks ig8 ag8 qg8 rg8)) (by rw [(kj_eq w11 (by decide) : x3 = 2)]) ?_
            first | refine ft_goS mi_k88 6 118 [.int (ig8 3586)] (by rfl) ?_ | refine ft_go mi_k88 6 118 [(4, .int vg5), (0, .ref 0), (1, .int x1), (2, .int x2), (3, .int x3)] [.int (ig8 3586)] ig8 ag8 qg8 rg8 (by rfl) ?_
            exact ft_ret mi_k88 rfl (hP (ig8 3586) _ _ _ _ hGg8 trivial)
          exact (oz1052_m c3 w10 w11 w9 z2.1 z2.2 kn3 kn0).elim
        ·
          have c12 : vg5.toInt < (0 : Int32).toInt := kd_leF c; clear c
          refine fo_goS mi_k88 fz88_43_1_45 [.int vg5] rfl ?_
          exact ft_ret mi_k88 rfl (hP vg5 _ _ _ _ hGg5 trivial)
      ·
        have c13 : x2.toInt ≠ (0 : Int32).toInt := kd_eqF c; clear c
        refine fo_goS mi_k88 fz88_29_1_30 [.int (-1)] rfl ?_
        exact ft_ret mi_k88 rfl (hP (-1) _ _ _ _ hG trivial)
    ·
      have c14 : x3.toInt = (3 : Int32).toInt := kd_neF c; clear c
      refine fo_goS mi_k88 fz88_14_2_16 [.int x2, .ref 0] rfl ?_
      refine ko_callPI mi_k88.1 (pc := 16) (ls := [(0, .ref 0), (1, .int x1), (2, .int x2), (3, .int x3)]) (st := [.int x2, .ref 0]) (h := ks i a q r) (i := (.invokevirtual 141, 3, 123, 0, 9, 0, 162)) (mi_k88.2 _ _ (by rfl)) (ft_invS mi_pq123 (by rfl)) (cy := mi_c123) mi_pq123 rfl (kc123_0 hG.I hG.R x2) (by decide) ?_
      intro vg15 hg15
      rcases hg15 with ⟨eg15, hg15⟩ | ⟨eg15, hg15⟩
      ·
        subst eg15
        first | refine fo_goS mi_k88 fz88_19_3_33 [.int x1, .ref 0] (by rfl) ?_ | refine fo_goS mi_k88 fz88_26_3_33 [.int x1, .ref 0] (by rfl) ?_
        refine ko_callI mi_k88.1 (pc := 33) (ls := [(0, .ref 0), (1, .int x1), (2, .int x2), (3, .int x3)]) (st := [.int x1, .ref 0]) (h := ks i a q r) (i := (.invokevirtual 144, 3, 129, 0, 9, 0, 208)) (mi_k88.2 _ _ (by rfl)) (ft_invS mi_pq129 (by rfl)) (cy := mi_c129) mi_pq129 rfl (kc129_0 hG.I hG.R x1) (by decide) ?_
        intro vg17 ig17 ag17 qg17 rg17 kg17 hg17
        have hGg17 := kG_call hG kg17 (by decide +kernel)
        refine fo_goL mi_k88 fz88_36_2_40 [(4, .int vg17), (0, .ref 0), (1, .int x1), (2, .int x2), (3, .int x3)] [.int vg17] rfl ?_
        refine ft_ifS mi_k88 (decide (0 ≤ vg17)) 46 43 [] rfl (fun c => ?_) (fun c => ?_)
        ·
          have c19 : (0 : Int32).toInt ≤ vg17.toInt := kd_le c; clear c
          refine fo_goS mi_k88 fz88_46_4_54 [.ref 1, .ref 49] rfl ?_
          refine ko_callN mi_k88.1 (pc := 54) (ls := [(4, .int vg17), (0, .ref 0), (1, .int x1), (2, .int x2), (3, .int x3)]) (st := [.ref 1, .ref 49]) (h := ks ig17 ag17 qg17 rg17) (i := (.invokevirtual 147, 3, 59, 0, 9, 0, 211)) (mi_k88.2 _ _ (by rfl)) (ft_invS mi_pq59 (by rfl)) (cy := mi_c59) mi_pq59 rfl (kc59_49_1_m hGg17.I hGg17.R ) (by decide) ?_
          intro ig20 ag20 qg20 rg20 kg20 hg20
          have hGg20 := kG_call hGg17 kg20 (by decide +kernel)
          refine fo_goS mi_k88 fz88_57_1_58 [.int x3] rfl ?_
          have w21 : ¬ (x3.toInt = 0) := (oz1053_m c14 kn3)
          have w22 : ¬ (x3.toInt = 1) := (oz1054_m c14 kn3)
          have w23 : ¬ (x3.toInt = 2) := (oz1055_m c14 kn3)
          refine ko_sw (ls := [(4, .int vg17), (0, .ref 0), (1, .int x1), (2, .int x2), (3, .int x3)]) (r := []) (h := ks ig20 ag20 qg20 rg20) mi_in88 (v := x3) (i := (.tableswitch 61 0 2 #[26, 34, 47], 26, 0, 0, 0, 0, 0)) (by rfl) rfl (oz973 w21 w22 w23) 119 (by rfl) ?_
          refine fo_goS mi_k88 fz88_119_5_128 [.int 0, .int x2, .ref 50] rfl ?_
          refine ko_callPI mi_k88.1 (pc := 128) (ls := [(4, .int vg17), (0, .ref 0), (1, .int x1), (2, .int x2), (3, .int x3)]) (st := [.int 0, .int x2, .ref 50]) (h := ks ig20 ag20 qg20 rg20) (i := (.invokevirtual 98, 3, 27, 0, 9, 0, 164)) (mi_k88.2 _ _ (by rfl)) (ft_invS mi_pq27 (by rfl)) (cy := mi_c27) mi_pq27 rfl (kc27_50_m hGg20.I hGg20.R x2 0) (by decide) ?_
          intro vg24 hg24
          exact ft_ret mi_k88 rfl (hP vg24 _ _ _ _ hGg20 trivial)
        ·
          have c25 : vg17.toInt < (0 : Int32).toInt := kd_leF c; clear c
          refine fo_goS mi_k88 fz88_43_1_45 [.int vg17] rfl ?_
          exact ft_ret mi_k88 rfl (hP vg17 _ _ _ _ hGg17 trivial)
      ·
        subst eg15
        first | refine fo_goS mi_k88 fz88_19_3_30 [.int (-1)] (by rfl) ?_ | refine fo_goS mi_k88 fz88_25_3_30 [.int (-1)] (by rfl) ?_ | refine ft_goS mi_k88 3 30 [.int (-1)] (by rfl) ?_ | refine ft_go mi_k88 3 30 [(0, .ref 0), (1, .int x1), (2, .int x2), (3, .int x3)] [.int (-1)] i a q r (by rfl) ?_
        exact ft_ret mi_k88 rfl (hP (-1) _ _ _ _ hG trivial)
  ·
    subst eg1
    first | refine fo_goS mi_k88 fz88_6_2_30 [.int (-1)] (by rfl) ?_ | refine fo_goS mi_k88 fz88_22_2_30 [.int (-1)] (by rfl) ?_ | refine fo_goS mi_k88 fz88_26_2_30 [.int (-1)] (by rfl) ?_
    exact ft_ret mi_k88 rfl (hP (-1) _ _ _ _ hG trivial)
def w89_0_m : kW := ([645, 3138, 3200, 3206, 3207, 3208, 3209, 3214, 3215, 3216, 3586, 3781, 6405], [13, 51, 52, 53, 54, 55, 57, 58, 62, 63, 65, 66, 67, 68, 69, 70, 71, 72, 73, 74, 75, 76, 77, 103], [], [1])
set_option maxRecDepth 100000 in
theorem kc89_0_m {i : Nat → Int32} {a : Nat → List Int32} {q : Nat → List Int64} {r : Nat → Nat} (hI : kI i a q) (hr : kr r) (x1 : Int32) (x2 : Int32) (x3 : Int32) : km 13 89 [.ref 0, .int x1, .int x2, .int x3] (ks i a q r) (kVI w89_0_m i a q r (fun v i1 a1 q1 r1 => True)) := by
  have hG := kG_self w89_0_m hI hr
  refine km_ofI (q := (mi_h89, mi_c89)) rfl (by decide) (Nat.le_of_ble_eq_true rfl) ?_
  intro P hP
  refine fo_goL mi_k89 fz89_0_1_1 [(0, .ref 0), (1, .int x1), (2, .int x2), (3, .int x3)] [.int x2] rfl ?_
  refine ft_ifS mi_k89 (decide (x2 < 0)) 13 4 [] rfl (fun c => ?_) (fun c => ?_)
  ·
    have c1 : x2.toInt < (0 : Int32).toInt := kd_lt c; clear c
    refine fo_goS mi_k89 fz89_13_1_14 [.int (-1)] rfl ?_
    exact ft_ret mi_k89 rfl (hP (-1) _ _ _ _ hG trivial)
  ·
    have c2 : (0 : Int32).toInt ≤ x2.toInt := kd_ltF c; clear c
    refine fo_goS mi_k89 fz89_4_3_7 [.int 2, .int 0, .int x3] rfl ?_
    refine ko_callPI mi_k89.1 (pc := 7) (ls := [(0, .ref 0), (1, .int x1), (2, .int x2), (3, .int x3)]) (st := [.int 2, .int 0, .int x3]) (h := ks i a q r) (i := (.invokestatic 74, 3, 120, 0, 9, 0, 152)) (mi_k89.2 _ _ (by rfl)) (ft_invS mi_pq120 (by rfl)) (cy := mi_c120) mi_pq120 rfl (kc120 hG.I hG.R x3 0 2) (by decide) ?_
    intro vg3 hg3
    rcases hg3 with ⟨eg3, hg3⟩ | ⟨eg3, hg3⟩
    ·
      subst eg3
      refine fo_goS mi_k89 fz89_10_3_17 [.int x1, .ref 0] rfl ?_
      refine ko_callI mi_k89.1 (pc := 17) (ls := [(0, .ref 0), (1, .int x1), (2, .int x2), (3, .int x3)]) (st := [.int x1, .ref 0]) (h := ks i a q r) (i := (.invokevirtual 144, 3, 129, 0, 9, 0, 208)) (mi_k89.2 _ _ (by rfl)) (ft_invS mi_pq129 (by rfl)) (cy := mi_c129) mi_pq129 rfl (kc129_0 hG.I hG.R x1) (by decide) ?_
      intro vg5 ig5 ag5 qg5 rg5 kg5 hg5
      have hGg5 := kG_call hG kg5 (by decide +kernel)
      refine fo_goL mi_k89 fz89_20_2_24 [(4, .int vg5), (0, .ref 0), (1, .int x1), (2, .int x2), (3, .int x3)] [.int vg5] rfl ?_
      refine ft_ifS mi_k89 (decide (0 ≤ vg5)) 30 27 [] rfl (fun c => ?_) (fun c => ?_)
      ·
        have c7 : (0 : Int32).toInt ≤ vg5.toInt := kd_le c; clear c
        have fig5_3138 : ((0 : Int) ≤ (ig5 3138).toInt) ∧ ((ig5 3138).toInt ≤ 20) := hGg5.I.1 3138
        refine fo_goS mi_k89 fz89_30_4_38 [.int (ig5 3138), .int x2] rfl ?_
        refine ft_ifS mi_k89 (decide (x2 < (ig5 3138))) 44 41 [] rfl (fun c => ?_) (fun c => ?_)
        ·
          have c8 : x2.toInt < (ig5 3138).toInt := kd_lt c; clear c
          refine fo_goS mi_k89 fz89_44_4_52 [.ref 1, .ref 49] rfl ?_
          refine ko_callN mi_k89.1 (pc := 52) (ls := [(4, .int vg5), (0, .ref 0), (1, .int x1), (2, .int x2), (3, .int x3)]) (st := [.ref 1, .ref 49]) (h := ks ig5 ag5 qg5 rg5) (i := (.invokevirtual 147, 3, 59, 0, 9, 0, 211)) (mi_k89.2 _ _ (by rfl)) (ft_invS mi_pq59 (by rfl)) (cy := mi_c59) mi_pq59 rfl (kc59_49_1_m hGg5.I hGg5.R ) (by decide) ?_
          intro ig9 ag9 qg9 rg9 kg9 hg9
          have hGg9 := kG_call hGg5 kg9 (by decide +kernel)
          refine fo_goS mi_k89 fz89_55_1_56 [.int x3] rfl ?_
          refine ft_ifS mi_k89 (x3 != 0) 69 59 [] rfl (fun c => ?_) (fun c => ?_)
          ·
            have c10 : x3.toInt ≠ (0 : Int32).toInt := kd_ne c; clear c
            refine fo_goS mi_k89 fz89_69_2_71 [.int 1, .int x3] rfl ?_
            refine ft_ifS mi_k89 (x3 != 1) 86 74 [] rfl (fun c => ?_) (fun c => ?_)
            ·
              have c11 : x3.toInt ≠ (1 : Int32).toInt := kd_ne c; clear c
              refine fo_goS mi_k89 fz89_86_4_94 [.int x2, .ref 77] rfl ?_
              refine ko_iald3 mi_k89.1 (n := 20) (c := 20) (ax := (0, 0, 0, 0, 0)) (mi_k89.2 _ _ (by rfl)) (by rfl) (ksG77 _ _ _ _) (hGg9.I.2.1 77) rfl (oz389 c2 kn0) (oz1056_m c8 fig5_3138.2) ?_
              exact ft_ret mi_k89 rfl (hP ((ag9 77).getD x2.toNatClampNeg 0) _ _ _ _ hGg9 trivial)
            ·
              have c12 : x3.toInt = (1 : Int32).toInt := kd_neF c; clear c
              refine fo_goS mi_k89 fz89_74_4_82 [.int x2, .ref 76] rfl ?_
              refine ko_iald3 mi_k89.1 (n := 20) (c := 20) (ax := (0, 0, 0, 0, 0)) (mi_k89.2 _ _ (by rfl)) (by rfl) (ksG76 _ _ _ _) (hGg9.I.2.1 76) rfl (oz389 c2 kn0) (oz1056_m c8 fig5_3138.2) ?_
              first | refine fo_goS mi_k89 fz89_83_1_95 [.int ((ag9 76).getD x2.toNatClampNeg 0)] (by rfl) ?_ | refine ft_goS mi_k89 1 95 [.int ((ag9 76).getD x2.toNatClampNeg 0)] (by rfl) ?_ | refine ft_go mi_k89 1 95 [(4, .int vg5), (0, .ref 0), (1, .int x1), (2, .int x2), (3, .int x3)] [.int ((ag9 76).getD x2.toNatClampNeg 0)] ig9 ag9 qg9 rg9 (by rfl) ?_
              exact ft_ret mi_k89 rfl (hP ((ag9 76).getD x2.toNatClampNeg 0) _ _ _ _ hGg9 trivial)
          ·
            have c13 : x3.toInt = (0 : Int32).toInt := kd_neF c; clear c
            refine fo_goS mi_k89 fz89_59_4_67 [.int x2, .ref 75] rfl ?_
            refine ko_iald3 mi_k89.1 (n := 20) (c := 20) (ax := (0, 0, 0, 0, 0)) (mi_k89.2 _ _ (by rfl)) (by rfl) (ksG75 _ _ _ _) (hGg9.I.2.1 75) rfl (oz389 c2 kn0) (oz1056_m c8 fig5_3138.2) ?_
            exact ft_ret mi_k89 rfl (hP ((ag9 75).getD x2.toNatClampNeg 0) _ _ _ _ hGg9 trivial)
        ·
          have c14 : (ig5 3138).toInt ≤ x2.toInt := kd_ltF c; clear c
          refine fo_goS mi_k89 fz89_41_1_43 [.int (-2)] rfl ?_
          exact ft_ret mi_k89 rfl (hP (-2) _ _ _ _ hGg5 trivial)
      ·
        have c15 : vg5.toInt < (0 : Int32).toInt := kd_leF c; clear c
        refine fo_goS mi_k89 fz89_27_1_29 [.int vg5] rfl ?_
        exact ft_ret mi_k89 rfl (hP vg5 _ _ _ _ hGg5 trivial)
    ·
      subst eg3
      first | refine fo_goS mi_k89 fz89_1_2_14 [.int (-1)] (by rfl) ?_ | refine fo_goS mi_k89 fz89_10_2_14 [.int (-1)] (by rfl) ?_
      exact ft_ret mi_k89 rfl (hP (-1) _ _ _ _ hG trivial)
def w32_50_m : kW := ([3208, 3209], [55, 63], [], [])
def w32_50_L22_m : kW := ([], [55], [], [])
set_option maxRecDepth 100000 in
theorem kc32_50_m {i : Nat → Int32} {a : Nat → List Int32} {q : Nat → List Int64} {r : Nat → Nat} (hI : kI i a q) (hr : kr r)  : km 1 32 [.ref 50] (ks i a q r) (kVN w32_50_m i a q r (fun i1 a1 q1 r1 => True)) := by
  have hG := kG_self w32_50_m hI hr
  refine km_ofN (q := (mi_h32, mi_c32)) rfl (by decide) (Nat.le_of_ble_eq_true rfl) ?_
  intro P hP
  have b1 : ((-2147483648 : Int) ≤ (i 3208).toInt) ∧ ((i 3208).toInt ≤ 2147483647) := kd_bd (i 3208)
  refine fo_goL mi_k32 fz32_0_6_9 [(0, .ref 50)] [.int ((i 3208) + 1), .int 99, .ref 50] rfl ?_
  have m3 : (((bif decide (((i 3208) + 1) < 99) then ((i 3208) + 1) else 99).toInt ≤ (99 : Int32).toInt) ∧ ((bif decide (((i 3208) + 1) < 99) then ((i 3208) + 1) else 99).toInt ≤ ((i 3208) + 1).toInt)) ∧ ((bif decide (((i 3208) + 1) < 99) then ((i 3208) + 1) else 99).toInt = (99 : Int32).toInt ∨ (bif decide (((i 3208) + 1) < 99) then ((i 3208) + 1) else 99).toInt = ((i 3208) + 1).toInt) := kd_min
  first | refine ft_goS mi_k32 1 12 [.int (bif decide (((i 3208) + 1) < 99) then ((i 3208) + 1) else 99), .ref 50] (by rfl) ?_ | refine ft_go mi_k32 1 12 [(0, .ref 50)] [.int (bif decide (((i 3208) + 1) < 99) then ((i 3208) + 1) else 99), .ref 50] i a q r (by rfl) ?_
  generalize (bif decide (((i 3208) + 1) < 99) then ((i 3208) + 1) else 99) = m2 at m3 ⊢
  have hJ4 := kG_i hG 3208 rfl (v := m2) (kd_bd _)
  have hJ5 := kG_i hJ4 3209 rfl (v := 0) (kd_bd _)
  first | refine fo_go mi_k32 fz32_12_6_22 [(1, .int 0), (0, .ref 50)] [] (ku (ku i 3208 m2) 3209 0) a q r (by rfl) ?_ | refine ft_goL mi_k32 6 22 [(1, .int 0), (0, .ref 50)] [] (by rfl) ?_ | refine ft_go mi_k32 6 22 [(1, .int 0), (0, .ref 50)] [] (ku (ku i 3208 m2) 3209 0) a q r (by rfl) ?_
  have lp6 : ∀ (nz : Nat) (i6 : Nat → Int32) (a6 : Nat → List Int32) (q6 : Nat → List Int64) (r6 : Nat → Nat) (l1_6 : Int32), kG w32_50_L22_m (ku (ku i 3208 m2) 3209 0) a q r i6 a6 q6 r6 → (0 : Int) ≤ l1_6.toInt → ((8 - l1_6.toInt)).toNat < nz → ko 1 (mi_h32, mi_c32) P (22, [(1, .int l1_6), (0, .ref 50)], [], (0, 0), ks i6 a6 q6 r6) := by
    intro nz
    induction nz with
    | zero =>
      intro _ _ _ _ _ _ _ hm
      exact absurd hm (Nat.not_lt_zero _)
    | succ nz ih6 =>
      intro i6 a6 q6 r6 l1_6 hL6 p6_0 hm6
      refine fo_goL mi_k32 fz32_22_2_25 [(1, .int l1_6), (0, .ref 50)] [.int 8, .int l1_6] rfl ?_
      refine ft_ifS mi_k32 (decide (8 ≤ l1_6)) 41 28 [] rfl (fun c => ?_) (fun c => ?_)
      ·
        have c7 : (8 : Int32).toInt ≤ l1_6.toInt := kd_le c; clear c
        have hG8 := kG_call hJ5 hL6 (by decide +kernel)
        refine fo_goS mi_k32 fz32_41_4_47 [.int 3, .ref 63, .int 3, .ref 63] rfl ?_
        refine ko_iald3 mi_k32.1 (n := 5) (c := 5) (ax := (0, 0, 0, 0, 0)) (mi_k32.2 _ _ (by rfl)) (by rfl) (ksG63 _ _ _ _) (hG8.I.2.1 63) rfl (oz260 kn3) (oz550 kn3) ?_
        have b9 : ((-2147483648 : Int) ≤ ((a6 63).getD (3 : Int32).toNatClampNeg 0).toInt) ∧ (((a6 63).getD (3 : Int32).toNatClampNeg 0).toInt ≤ 2147483647) := kd_bd ((a6 63).getD (3 : Int32).toNatClampNeg 0)
        refine fo_goS mi_k32 fz32_48_2_50 [.int (((a6 63).getD (3 : Int32).toNatClampNeg 0) + 1), .int 3, .ref 63] rfl ?_
        refine ko_iast3 mi_k32.1 (n := 5) (c := 5) (ax := (0, 0, 0, 0, 0)) (mi_k32.2 _ _ (by rfl)) (by rfl) (ksG63 _ _ _ _) (ksA63 _ _ _ _) (hG8.I.2.1 63) rfl (oz260 kn3) (oz550 kn3) ?_
        intro a10 ea10 fa10
        have hJ10 := kG_a3 hG8 63 rfl ea10 fa10 (kd_bd _)
        exact ft_ret mi_k32 rfl (hP  _ _ _ _ hJ10 trivial)
      ·
        have c11 : l1_6.toInt < (8 : Int32).toInt := kd_leF c; clear c
        refine fo_goS mi_k32 fz32_28_4_34 [.int 0, .int l1_6, .ref 55] rfl ?_
        refine ko_iast3 mi_k32.1 (n := 8) (c := 8) (ax := (0, 0, 0, 0, 0)) (mi_k32.2 _ _ (by rfl)) (by rfl) (ksG55 _ _ _ _) (ksA55 _ _ _ _) (hL6.I.2.1 55) rfl (oz3 p6_0) (oz936 c11 kn8) ?_
        intro a12 ea12 fa12
        have hJ12 := kG_a3 hL6 55 rfl ea12 fa12 (kd_bd _)
        have s13 : (l1_6 + 1).toInt = l1_6.toInt + (1 : Int32).toInt := kd_add (oz12 p6_0 kn1) (oz474 c11 kn8 kn1)
        first | refine fo_goL mi_k32 fz32_20_2_22 [(1, .int (l1_6 + 1)), (0, .ref 50)] [] (by rfl) ?_ | refine fo_goL mi_k32 fz32_35_2_22 [(1, .int (l1_6 + 1)), (0, .ref 50)] [] (by rfl) ?_
        exact ih6 _ _ _ _ _ hJ12 (oz14 p6_0 s13 kn1) (kj_meas (oz475 s13 kn1) (oz476 c11 kn8) hm6)
  exact lp6 _ _ _ _ _ _ (kG_self _ hJ5.I hJ5.R) (oz46 kn0) (Nat.lt_succ_self _)
def w61_49_1_m : kW := ([645, 3200, 3206, 3207, 3208, 3209, 3214, 3215, 3216, 3586, 3781, 6405], [13, 51, 52, 53, 54, 55, 57, 58, 62, 63, 65, 66, 67, 68, 69, 70, 71, 72, 73, 75, 76, 77, 103], [], [1])
def w61_49_1_L10_m : kW := ([645, 3208, 3209, 3214, 3215, 3216, 3586, 3781, 6405], [13, 51, 55, 57, 58, 62, 63, 65, 66, 67, 68, 69, 70, 71, 72, 73, 75, 76, 77, 103], [], [])
set_option maxRecDepth 100000 in
theorem kc61_49_1_m {i : Nat → Int32} {a : Nat → List Int32} {q : Nat → List Int64} {r : Nat → Nat} (hI : kI i a q) (hr : kr r) (x2 : Int32) (hp0 : x2.toInt ≤ 20) : km 11 61 [.ref 49, .ref 1, .int x2] (ks i a q r) (kVN w61_49_1_m i a q r (fun i1 a1 q1 r1 => True)) := by
  have hG := kG_self w61_49_1_m hI hr
  refine km_ofN (q := (mi_h61, mi_c61)) rfl (by decide) (Nat.le_of_ble_eq_true rfl) ?_
  intro P hP
  refine fo_goL mi_k61 fz61_0_3_5 [(0, .ref 49), (1, .ref 1), (2, .int x2)] [.ref 1, .ref 50] rfl ?_
  refine ko_callN mi_k61.1 (pc := 5) (ls := [(0, .ref 49), (1, .ref 1), (2, .int x2)]) (st := [.ref 1, .ref 50]) (h := ks i a q r) (i := (.invokevirtual 56, 3, 34, 0, 9, 0, 212)) (mi_k61.2 _ _ (by rfl)) (ft_invS mi_pq34 (by rfl)) (cy := mi_c34) mi_pq34 rfl (kc34_50_1 hG.I hG.R ) (by decide) ?_
  intro ig1 ag1 qg1 rg1 kg1 hg1
  have hGg1 := kG_call hG kg1 (by decide +kernel)
  first | refine fo_goL mi_k61 fz61_8_2_10 [(3, .int 0), (0, .ref 49), (1, .ref 1), (2, .int x2)] [] (by rfl) ?_ | refine fo_goL mi_k61 fz61_30_2_10 [(3, .int 0), (0, .ref 49), (1, .ref 1), (2, .int x2)] [] (by rfl) ?_
  have lp2 : ∀ (nz : Nat) (i2 : Nat → Int32) (a2 : Nat → List Int32) (q2 : Nat → List Int64) (r2 : Nat → Nat) (l3_2 : Int32), kG w61_49_1_L10_m ig1 ag1 qg1 rg1 i2 a2 q2 r2 → (0 : Int) ≤ l3_2.toInt → ((x2.toInt - l3_2.toInt)).toNat < nz → ko 11 (mi_h61, mi_c61) P (10, [(3, .int l3_2), (0, .ref 49), (1, .ref 1), (2, .int x2)], [], (0, 0), ks i2 a2 q2 r2) := by
    intro nz
    induction nz with
    | zero =>
      intro _ _ _ _ _ _ _ hm
      exact absurd hm (Nat.not_lt_zero _)
    | succ nz ih2 =>
      intro i2 a2 q2 r2 l3_2 hL2 p2_0 hm2
      refine fo_goL mi_k61 fz61_10_2_12 [(3, .int l3_2), (0, .ref 49), (1, .ref 1), (2, .int x2)] [.int x2, .int l3_2] rfl ?_
      refine ft_ifS mi_k61 (decide (x2 ≤ l3_2)) 36 15 [] rfl (fun c => ?_) (fun c => ?_)
      ·
        have c3 : x2.toInt ≤ l3_2.toInt := kd_le c; clear c
        have hG4 := kG_call hGg1 hL2 (by decide +kernel)
        exact ft_ret mi_k61 rfl (hP  _ _ _ _ hG4 trivial)
      ·
        have c5 : l3_2.toInt < x2.toInt := kd_leF c; clear c
        refine fo_goS mi_k61 fz61_15_1_16 [.int l3_2] rfl ?_
        refine ft_ifS mi_k61 (decide (l3_2 ≤ 0)) 26 19 [] rfl (fun c => ?_) (fun c => ?_)
        ·
          have c6 : l3_2.toInt ≤ (0 : Int32).toInt := kd_le c; clear c
          refine fo_goS mi_k61 fz61_26_1_27 [.ref 49] rfl ?_
          refine ko_callN mi_k61.1 (pc := 27) (ls := [(3, .int l3_2), (0, .ref 49), (1, .ref 1), (2, .int x2)]) (st := [.ref 49]) (h := ks i2 a2 q2 r2) (i := (.invokevirtual 60, 3, 60, 0, 9, 0, 219)) (mi_k61.2 _ _ (by rfl)) (ft_invS mi_pq60 (by rfl)) (cy := mi_c60) mi_pq60 rfl (kc60_49_m hL2.I hL2.R ) (by decide) ?_
          intro ig7 ag7 qg7 rg7 kg7 hg7
          have hGg7 := kG_call hL2 kg7 (by decide +kernel)
          have s8 : (l3_2 + 1).toInt = l3_2.toInt + (1 : Int32).toInt := kd_add (oz12 p2_0 kn1) (oz391 c6 kn0 kn1)
          first | refine fo_goL mi_k61 fz61_8_2_10 [(3, .int (l3_2 + 1)), (0, .ref 49), (1, .ref 1), (2, .int x2)] [] (by rfl) ?_ | refine fo_goL mi_k61 fz61_30_2_10 [(3, .int (l3_2 + 1)), (0, .ref 49), (1, .ref 1), (2, .int x2)] [] (by rfl) ?_
          exact ih2 _ _ _ _ _ hGg7 (oz14 p2_0 s8 kn1) (kj_meas (oz44 s8 kn1) (oz45 c5) hm2)
        ·
          have c9 : (0 : Int32).toInt < l3_2.toInt := kd_leF c; clear c
          refine fo_goS mi_k61 fz61_19_2_23 [.ref 50] rfl ?_
          refine ko_callN mi_k61.1 (pc := 23) (ls := [(3, .int l3_2), (0, .ref 49), (1, .ref 1), (2, .int x2)]) (st := [.ref 50]) (h := ks i2 a2 q2 r2) (i := (.invokevirtual 72, 3, 32, 0, 9, 0, 232)) (mi_k61.2 _ _ (by rfl)) (ft_invS mi_pq32 (by rfl)) (cy := mi_c32) mi_pq32 rfl (kc32_50_m hL2.I hL2.R ) (by decide) ?_
          intro ig10 ag10 qg10 rg10 kg10 hg10
          have hGg10 := kG_call hL2 kg10 (by decide +kernel)
          refine fo_goS mi_k61 fz61_26_1_27 [.ref 49] rfl ?_
          refine ko_callN mi_k61.1 (pc := 27) (ls := [(3, .int l3_2), (0, .ref 49), (1, .ref 1), (2, .int x2)]) (st := [.ref 49]) (h := ks ig10 ag10 qg10 rg10) (i := (.invokevirtual 60, 3, 60, 0, 9, 0, 219)) (mi_k61.2 _ _ (by rfl)) (ft_invS mi_pq60 (by rfl)) (cy := mi_c60) mi_pq60 rfl (kc60_49_m hGg10.I hGg10.R ) (by decide) ?_
          intro ig11 ag11 qg11 rg11 kg11 hg11
          have hGg11 := kG_call hGg10 kg11 (by decide +kernel)
          have s12 : (l3_2 + 1).toInt = l3_2.toInt + (1 : Int32).toInt := kd_add (oz402 c9 kn0 kn1) (oz1057_m c5 hp0 kn1)
          first | refine fo_goL mi_k61 fz61_8_2_10 [(3, .int (l3_2 + 1)), (0, .ref 49), (1, .ref 1), (2, .int x2)] [] (by rfl) ?_ | refine fo_goL mi_k61 fz61_30_2_10 [(3, .int (l3_2 + 1)), (0, .ref 49), (1, .ref 1), (2, .int x2)] [] (by rfl) ?_
          exact ih2 _ _ _ _ _ hGg11 (oz404 c9 s12 kn0 kn1) (kj_meas (oz44 s12 kn1) (oz45 c5) hm2)
  exact lp2 _ _ _ _ _ _ (kG_self _ hGg1.I hGg1.R) (oz46 kn0) (Nat.lt_succ_self _)
set_option maxRecDepth 100000 in
theorem kc62_49_m {i : Nat → Int32} {a : Nat → List Int32} {q : Nat → List Int64} {r : Nat → Nat} (hI : kI i a q) (hr : kr r) (x1 : Int32) : km 3 62 [.ref 49, .int x1] (ks i a q r) (kPI (ks i a q r) (fun v => True)) := by
  have hG := kG_self kW0 hI hr
  refine km_ofPI (q := (mi_h62, mi_c62)) rfl (by decide) (Nat.le_of_ble_eq_true rfl) ?_
  intro P hP
  refine fo_goL mi_k62 fz62_0_3_5 [(0, .ref 49), (1, .int x1)] [.int x1, .ref 50] rfl ?_
  refine ko_callPI mi_k62.1 (pc := 5) (ls := [(0, .ref 49), (1, .int x1)]) (st := [.int x1, .ref 50]) (h := ks i a q r) (i := (.invokevirtual 75, 3, 24, 0, 9, 0, 234)) (mi_k62.2 _ _ (by rfl)) (ft_invS mi_pq24 (by rfl)) (cy := mi_c24) mi_pq24 rfl (kc24_50 hG.I hG.R x1) (by decide) ?_
  intro vg1 hg1
  rcases hg1 with ⟨eg1, hg1⟩ | ⟨eg1, hg1⟩
  ·
    subst eg1
    have fi_3200 : ((0 : Int) ≤ (i 3200).toInt) ∧ ((i 3200).toInt ≤ 8) := hG.I.1 3200
    have z2 : ((0 : Int) ≤ x1.toInt) ∧ (x1.toInt < (i 3200).toInt) := hg1
    refine fo_goS mi_k62 fz62_8_5_19 [.int x1, .ref 51] rfl ?_
    refine ko_iald3 mi_k62.1 (n := 8) (c := 8) (ax := (0, 0, 0, 0, 0)) (mi_k62.2 _ _ (by rfl)) (by rfl) (ksG51 _ _ _ _) (hG.I.2.1 51) rfl (oz3 z2.1) (oz974 fi_3200.2 z2.2) ?_
    first | refine fo_goS mi_k62 fz62_20_1_32 [.int ((a 51).getD x1.toNatClampNeg 0)] (by rfl) ?_ | refine ft_goS mi_k62 1 32 [.int ((a 51).getD x1.toNatClampNeg 0)] (by rfl) ?_ | refine ft_go mi_k62 1 32 [(0, .ref 49), (1, .int x1)] [.int ((a 51).getD x1.toNatClampNeg 0)] i a q r (by rfl) ?_
    exact ft_ret mi_k62 rfl (hP ((a 51).getD x1.toNatClampNeg 0) trivial)
  ·
    subst eg1
    refine fo_goS mi_k62 fz62_8_5_31 [.int 2, .ref 63] rfl ?_
    refine ko_iald3 mi_k62.1 (n := 5) (c := 5) (ax := (0, 0, 0, 0, 0)) (mi_k62.2 _ _ (by rfl)) (by rfl) (ksG63 _ _ _ _) (hG.I.2.1 63) rfl (oz256 kn2) (oz549 kn2) ?_
    exact ft_ret mi_k62 rfl (hP ((a 63).getD (2 : Int32).toNatClampNeg 0) trivial)
def w90_0_m : kW := ([645, 3138, 3200, 3206, 3207, 3208, 3209, 3214, 3215, 3216, 3586, 3781, 6405], [13, 51, 52, 53, 54, 55, 57, 58, 62, 63, 65, 66, 67, 68, 69, 70, 71, 72, 73, 74, 75, 76, 77, 103], [], [1])
set_option maxRecDepth 100000 in
theorem kc90_0_m {i : Nat → Int32} {a : Nat → List Int32} {q : Nat → List Int64} {r : Nat → Nat} (hI : kI i a q) (hr : kr r) (x1 : Int32) (x2 : Int32) (x3 : Int32) : km 13 90 [.ref 0, .int x1, .int x2, .int x3] (ks i a q r) (kVI w90_0_m i a q r (fun v i1 a1 q1 r1 => True)) := by
  have hG := kG_self w90_0_m hI hr
  refine km_ofI (q := (mi_h90, mi_c90)) rfl (by decide) (Nat.le_of_ble_eq_true rfl) ?_
  intro P hP
  refine fo_goL mi_k90 fz90_0_3_4 [(0, .ref 0), (1, .int x1), (2, .int x2), (3, .int x3)] [.int 20, .int 0, .int x2] rfl ?_
  refine ko_callPI mi_k90.1 (pc := 4) (ls := [(0, .ref 0), (1, .int x1), (2, .int x2), (3, .int x3)]) (st := [.int 20, .int 0, .int x2]) (h := ks i a q r) (i := (.invokestatic 74, 3, 120, 0, 9, 0, 152)) (mi_k90.2 _ _ (by rfl)) (ft_invS mi_pq120 (by rfl)) (cy := mi_c120) mi_pq120 rfl (kc120 hG.I hG.R x2 0 20) (by decide) ?_
  intro vg1 hg1
  rcases hg1 with ⟨eg1, hg1⟩ | ⟨eg1, hg1⟩
  ·
    subst eg1
    have z2 : ((0 : Int32).toInt ≤ x2.toInt) ∧ (x2.toInt ≤ (20 : Int32).toInt) := hg1
    refine fo_goS mi_k90 fz90_7_3_12 [.int (-1), .int x3] rfl ?_
    refine ft_ifS mi_k90 (x3 == (-1)) 25 15 [] rfl (fun c => ?_) (fun c => ?_)
    ·
      have c3 : x3.toInt = ((-1) : Int32).toInt := kd_eq c; clear c
      refine fo_goS mi_k90 fz90_25_2_27 [.int x1, .ref 0] rfl ?_
      refine ko_callI mi_k90.1 (pc := 27) (ls := [(0, .ref 0), (1, .int x1), (2, .int x2), (3, .int x3)]) (st := [.int x1, .ref 0]) (h := ks i a q r) (i := (.invokevirtual 144, 3, 129, 0, 9, 0, 208)) (mi_k90.2 _ _ (by rfl)) (ft_invS mi_pq129 (by rfl)) (cy := mi_c129) mi_pq129 rfl (kc129_0 hG.I hG.R x1) (by decide) ?_
      intro vg4 ig4 ag4 qg4 rg4 kg4 hg4
      have hGg4 := kG_call hG kg4 (by decide +kernel)
      refine fo_goL mi_k90 fz90_30_2_34 [(4, .int vg4), (0, .ref 0), (1, .int x1), (2, .int x2), (3, .int x3)] [.int vg4] rfl ?_
      refine ft_ifS mi_k90 (decide (0 ≤ vg4)) 40 37 [] rfl (fun c => ?_) (fun c => ?_)
      ·
        have c6 : (0 : Int32).toInt ≤ vg4.toInt := kd_le c; clear c
        refine fo_goS mi_k90 fz90_40_5_49 [.int x2, .ref 1, .ref 49] rfl ?_
        refine ko_callN mi_k90.1 (pc := 49) (ls := [(4, .int vg4), (0, .ref 0), (1, .int x1), (2, .int x2), (3, .int x3)]) (st := [.int x2, .ref 1, .ref 49]) (h := ks ig4 ag4 qg4 rg4) (i := (.invokevirtual 167, 3, 61, 0, 9, 0, 231)) (mi_k90.2 _ _ (by rfl)) (ft_invS mi_pq61 (by rfl)) (cy := mi_c61) mi_pq61 rfl (kc61_49_1_m hGg4.I hGg4.R x2 (oz1058_m z2.2 kn20)) (by decide) ?_
        intro ig7 ag7 qg7 rg7 kg7 hg7
        have hGg7 := kG_call hGg4 kg7 (by decide +kernel)
        refine fo_goS mi_k90 fz90_52_3_57 [.int x3, .ref 49] rfl ?_
        refine ko_callPI mi_k90.1 (pc := 57) (ls := [(4, .int vg4), (0, .ref 0), (1, .int x1), (2, .int x2), (3, .int x3)]) (st := [.int x3, .ref 49]) (h := ks ig7 ag7 qg7 rg7) (i := (.invokevirtual 171, 3, 62, 0, 9, 0, 233)) (mi_k90.2 _ _ (by rfl)) (ft_invS mi_pq62 (by rfl)) (cy := mi_c62) mi_pq62 rfl (kc62_49_m hGg7.I hGg7.R x3) (by decide) ?_
        intro vg8 hg8
        exact ft_ret mi_k90 rfl (hP vg8 _ _ _ _ hGg7 trivial)
      ·
        have c9 : vg4.toInt < (0 : Int32).toInt := kd_leF c; clear c
        refine fo_goS mi_k90 fz90_37_1_39 [.int vg4] rfl ?_
        exact ft_ret mi_k90 rfl (hP vg4 _ _ _ _ hGg4 trivial)
    ·
      have c10 : x3.toInt ≠ ((-1) : Int32).toInt := kd_eqF c; clear c
      refine fo_goS mi_k90 fz90_15_2_17 [.int x3, .ref 0] rfl ?_
      refine ko_callPI mi_k90.1 (pc := 17) (ls := [(0, .ref 0), (1, .int x1), (2, .int x2), (3, .int x3)]) (st := [.int x3, .ref 0]) (h := ks i a q r) (i := (.invokevirtual 141, 3, 123, 0, 9, 0, 162)) (mi_k90.2 _ _ (by rfl)) (ft_invS mi_pq123 (by rfl)) (cy := mi_c123) mi_pq123 rfl (kc123_0 hG.I hG.R x3) (by decide) ?_
      intro vg11 hg11
      rcases hg11 with ⟨eg11, hg11⟩ | ⟨eg11, hg11⟩
      ·
        subst eg11
        first | refine fo_goS mi_k90 fz90_20_3_27 [.int x1, .ref 0] (by rfl) ?_ | refine ft_goS mi_k90 3 27 [.int x1, .ref 0] (by rfl) ?_ | refine ft_go mi_k90 3 27 [(0, .ref 0), (1, .int x1), (2, .int x2), (3, .int x3)] [.int x1, .ref 0] i a q r (by rfl) ?_
        refine ko_callI mi_k90.1 (pc := 27) (ls := [(0, .ref 0), (1, .int x1), (2, .int x2), (3, .int x3)]) (st := [.int x1, .ref 0]) (h := ks i a q r) (i := (.invokevirtual 144, 3, 129, 0, 9, 0, 208)) (mi_k90.2 _ _ (by rfl)) (ft_invS mi_pq129 (by rfl)) (cy := mi_c129) mi_pq129 rfl (kc129_0 hG.I hG.R x1) (by decide) ?_
        intro vg13 ig13 ag13 qg13 rg13 kg13 hg13
        have hGg13 := kG_call hG kg13 (by decide +kernel)
        refine fo_goL mi_k90 fz90_30_2_34 [(4, .int vg13), (0, .ref 0), (1, .int x1), (2, .int x2), (3, .int x3)] [.int vg13] rfl ?_
        refine ft_ifS mi_k90 (decide (0 ≤ vg13)) 40 37 [] rfl (fun c => ?_) (fun c => ?_)
        ·
          have c15 : (0 : Int32).toInt ≤ vg13.toInt := kd_le c; clear c
          refine fo_goS mi_k90 fz90_40_5_49 [.int x2, .ref 1, .ref 49] rfl ?_
          refine ko_callN mi_k90.1 (pc := 49) (ls := [(4, .int vg13), (0, .ref 0), (1, .int x1), (2, .int x2), (3, .int x3)]) (st := [.int x2, .ref 1, .ref 49]) (h := ks ig13 ag13 qg13 rg13) (i := (.invokevirtual 167, 3, 61, 0, 9, 0, 231)) (mi_k90.2 _ _ (by rfl)) (ft_invS mi_pq61 (by rfl)) (cy := mi_c61) mi_pq61 rfl (kc61_49_1_m hGg13.I hGg13.R x2 (oz1058_m z2.2 kn20)) (by decide) ?_
          intro ig16 ag16 qg16 rg16 kg16 hg16
          have hGg16 := kG_call hGg13 kg16 (by decide +kernel)
          refine fo_goS mi_k90 fz90_52_3_57 [.int x3, .ref 49] rfl ?_
          refine ko_callPI mi_k90.1 (pc := 57) (ls := [(4, .int vg13), (0, .ref 0), (1, .int x1), (2, .int x2), (3, .int x3)]) (st := [.int x3, .ref 49]) (h := ks ig16 ag16 qg16 rg16) (i := (.invokevirtual 171, 3, 62, 0, 9, 0, 233)) (mi_k90.2 _ _ (by rfl)) (ft_invS mi_pq62 (by rfl)) (cy := mi_c62) mi_pq62 rfl (kc62_49_m hGg16.I hGg16.R x3) (by decide) ?_
          intro vg17 hg17
          exact ft_ret mi_k90 rfl (hP vg17 _ _ _ _ hGg16 trivial)
        ·
          have c18 : vg13.toInt < (0 : Int32).toInt := kd_leF c; clear c
          refine fo_goS mi_k90 fz90_37_1_39 [.int vg13] rfl ?_
          exact ft_ret mi_k90 rfl (hP vg13 _ _ _ _ hGg13 trivial)
      ·
        subst eg11
        first | refine fo_goS mi_k90 fz90_7_2_24 [.int (-1)] (by rfl) ?_ | refine fo_goS mi_k90 fz90_20_2_24 [.int (-1)] (by rfl) ?_
        exact ft_ret mi_k90 rfl (hP (-1) _ _ _ _ hG trivial)
  ·
    subst eg1
    first | refine fo_goS mi_k90 fz90_7_2_24 [.int (-1)] (by rfl) ?_ | refine fo_goS mi_k90 fz90_20_2_24 [.int (-1)] (by rfl) ?_
    exact ft_ret mi_k90 rfl (hP (-1) _ _ _ _ hG trivial)
def w65_49_m : kW := ([3138], [74], [], [])
set_option maxRecDepth 100000 in
theorem kc65_49_m {i : Nat → Int32} {a : Nat → List Int32} {q : Nat → List Int64} {r : Nat → Nat} (hI : kI i a q) (hr : kr r) (x1 : Int32) (x2 : Int32) : km 1 65 [.ref 49, .int x1, .int x2] (ks i a q r) (kVN w65_49_m i a q r (fun i1 a1 q1 r1 => True)) := by
  have hG := kG_self w65_49_m hI hr
  refine km_ofN (q := (mi_h65, mi_c65)) rfl (by decide) (Nat.le_of_ble_eq_true rfl) ?_
  intro P hP
  have fi_3138 : ((0 : Int) ≤ (i 3138).toInt) ∧ ((i 3138).toInt ≤ 20) := hG.I.1 3138
  refine fo_goL mi_k65 fz65_0_3_6 [(0, .ref 49), (1, .int x1), (2, .int x2)] [.int 20, .int (i 3138)] rfl ?_
  refine ft_ifS mi_k65 (decide (20 ≤ (i 3138))) 59 9 [] rfl (fun c => ?_) (fun c => ?_)
  ·
    have c1 : (20 : Int32).toInt ≤ (i 3138).toInt := kd_le c; clear c
    exact ft_ret mi_k65 rfl (hP  _ _ _ _ hG trivial)
  ·
    have c2 : (i 3138).toInt < (20 : Int32).toInt := kd_leF c; clear c
    refine fo_goS mi_k65 fz65_9_1_10 [.int x1] rfl ?_
    refine ft_ifS mi_k65 (decide (x1 < 0)) 59 13 [] rfl (fun c => ?_) (fun c => ?_)
    ·
      have c3 : x1.toInt < (0 : Int32).toInt := kd_lt c; clear c
      exact ft_ret mi_k65 rfl (hP  _ _ _ _ hG trivial)
    ·
      have c4 : (0 : Int32).toInt ≤ x1.toInt := kd_ltF c; clear c
      refine fo_goS mi_k65 fz65_13_3_18 [.int (i 3138), .int x1] rfl ?_
      refine ft_ifS mi_k65 (decide ((i 3138) < x1)) 59 21 [] rfl (fun c => ?_) (fun c => ?_)
      ·
        have c5 : (i 3138).toInt < x1.toInt := kd_lt c; clear c
        exact ft_ret mi_k65 rfl (hP  _ _ _ _ hG trivial)
      ·
        have c6 : x1.toInt ≤ (i 3138).toInt := kd_ltF c; clear c
        have s7 : (x1 + 1).toInt = x1.toInt + (1 : Int32).toInt := kd_add (oz950 c4 kn0 kn1) (oz1059_m c6 fi_3138.2 kn1)
        have s8 : ((i 3138) - x1).toInt = (i 3138).toInt - x1.toInt := kd_sub (oz551 c6) (oz1060_m c2 c4 kn20 kn0)
        refine fo_goS mi_k65 fz65_21_12_39 [.int ((i 3138) - x1), .int (x1 + 1), .ref 74, .int x1, .ref 74] rfl ?_
        refine ko_copyI3 mi_k65.1 (n := 20) (c := 20) (m := 20) (b := 20) (mi_k65.2 _ _ (by rfl)) (by rfl) (by rfl) (by rfl) (ksG74 _ _ _ _) (ksG74 _ _ _ _) (ksA74 _ _ _ _) (hG.I.2.1 74) rfl (hG.I.2.1 74) rfl (oz1061_m c6 s8) (oz389 c4 kn0) (oz952 c4 s7 kn0 kn1) (oz1062_m fi_3138.2 s8) (oz1063_m c2 s7 s8 kn20 kn1) ?_
        intro a10 ea10 fa10
        have hJ10 := kG_al3 hG 74 rfl ea10 fa10 (kcpy_len2 (n := 20) (c := 20) (m := 20) (b := 20) (sp := x1) (dp := (x1 + 1)) (n1 := ((i 3138) - x1)) (hG.I.2.1 74) rfl (hG.I.2.1 74) rfl (oz1061_m c6 s8) (oz389 c4 kn0) (oz952 c4 s7 kn0 kn1) (oz1062_m fi_3138.2 s8) (oz1063_m c2 s7 s8 kn20 kn1)) (fun _ => kd_bd _)
        refine fo_goS mi_k65 fz65_42_4_48 [.int x2, .int x1, .ref 74] rfl ?_
        refine ko_iast3 mi_k65.1 (n := 20) (c := 20) (ax := (0, 0, 0, 0, 0)) (mi_k65.2 _ _ (by rfl)) (by rfl) (ksG74 _ _ _ _) (ksA74 _ _ _ _) (hJ10.I.2.1 74) rfl (oz389 c4 kn0) (oz1064_m c2 c6 kn20) ?_
        intro a11 ea11 fa11
        have hJ11 := kG_a3 hJ10 74 rfl ea11 fa11 (kd_bd _)
        have s12 : ((i 3138) + 1).toInt = (i 3138).toInt + (1 : Int32).toInt := kd_add (oz12 fi_3138.1 kn1) (oz448 fi_3138.2 kn1)
        have hJ13 := kG_i hJ11 3138 rfl (v := ((i 3138) + 1)) ⟨(oz14 fi_3138.1 s12 kn1), (oz224 c2 s12 kn20 kn1)⟩
        first | refine fo_goI mi_k65 fz65_49_6_59 [] (ku i 3138 ((i 3138) + 1)) (by rfl) ?_ | refine ft_goS mi_k65 6 59 [] (by rfl) ?_ | refine ft_go mi_k65 6 59 [(0, .ref 49), (1, .int x1), (2, .int x2)] [] (ku i 3138 ((i 3138) + 1)) a11 q r (by rfl) ?_
        exact ft_ret mi_k65 rfl (hP  _ _ _ _ hJ13 trivial)
def w63_49_1_m : kW := ([645, 3200, 3206, 3207, 3208, 3209, 3214, 3215, 3216, 3586, 3781, 6405], [13, 51, 52, 53, 54, 55, 57, 58, 62, 63, 65, 66, 67, 68, 69, 70, 71, 72, 73, 103], [], [1])
def w63_49_1_L10_m : kW := ([645, 3209, 3214, 3215, 3216, 3586, 3781, 6405], [13, 51, 55, 57, 58, 62, 63, 65, 66, 67, 68, 69, 70, 71, 72, 73, 103], [], [])
set_option maxRecDepth 100000 in
theorem kc63_49_1_m {i : Nat → Int32} {a : Nat → List Int32} {q : Nat → List Int64} {r : Nat → Nat} (hI : kI i a q) (hr : kr r) (x2 : Int32) : km 9 63 [.ref 49, .ref 1, .int x2] (ks i a q r) (kVI w63_49_1_m i a q r (fun v i1 a1 q1 r1 => True)) := by
  have hG := kG_self w63_49_1_m hI hr
  refine km_ofI (q := (mi_h63, mi_c63)) rfl (by decide) (Nat.le_of_ble_eq_true rfl) ?_
  intro P hP
  refine fo_goL mi_k63 fz63_0_3_5 [(0, .ref 49), (1, .ref 1), (2, .int x2)] [.ref 1, .ref 50] rfl ?_
  refine ko_callN mi_k63.1 (pc := 5) (ls := [(0, .ref 49), (1, .ref 1), (2, .int x2)]) (st := [.ref 1, .ref 50]) (h := ks i a q r) (i := (.invokevirtual 56, 3, 34, 0, 9, 0, 212)) (mi_k63.2 _ _ (by rfl)) (ft_invS mi_pq34 (by rfl)) (cy := mi_c34) mi_pq34 rfl (kc34_50_1 hG.I hG.R ) (by decide) ?_
  intro ig1 ag1 qg1 rg1 kg1 hg1
  have hGg1 := kG_call hG kg1 (by decide +kernel)
  first | refine fo_goL mi_k63 fz63_8_2_10 [(3, .int 0), (0, .ref 49), (1, .ref 1), (2, .int x2)] [] (by rfl) ?_ | refine fo_goL mi_k63 fz63_38_2_10 [(3, .int 0), (0, .ref 49), (1, .ref 1), (2, .int x2)] [] (by rfl) ?_
  have lp2 : ∀ (nz : Nat) (i2 : Nat → Int32) (a2 : Nat → List Int32) (q2 : Nat → List Int64) (r2 : Nat → Nat) (l3_2 : Int32), kG w63_49_1_L10_m ig1 ag1 qg1 rg1 i2 a2 q2 r2 → (0 : Int) ≤ l3_2.toInt → ((20 - l3_2.toInt)).toNat < nz → ko 9 (mi_h63, mi_c63) P (10, [(3, .int l3_2), (0, .ref 49), (1, .ref 1), (2, .int x2)], [], (0, 0), ks i2 a2 q2 r2) := by
    intro nz
    induction nz with
    | zero =>
      intro _ _ _ _ _ _ _ hm
      exact absurd hm (Nat.not_lt_zero _)
    | succ nz ih2 =>
      intro i2 a2 q2 r2 l3_2 hL2 p2_0 hm2
      have fi2_3138 : ((0 : Int) ≤ (i2 3138).toInt) ∧ ((i2 3138).toInt ≤ 20) := hL2.I.1 3138
      refine fo_goL mi_k63 fz63_10_3_15 [(3, .int l3_2), (0, .ref 49), (1, .ref 1), (2, .int x2)] [.int (i2 3138), .int l3_2] rfl ?_
      refine ft_ifS mi_k63 (decide ((i2 3138) ≤ l3_2)) 44 18 [] rfl (fun c => ?_) (fun c => ?_)
      ·
        have c3 : (i2 3138).toInt ≤ l3_2.toInt := kd_le c; clear c
        have hG4 := kG_call hGg1 hL2 (by decide +kernel)
        refine fo_goS mi_k63 fz63_44_4_50 [.int 0, .int x2, .ref 50] rfl ?_
        refine ko_callPI mi_k63.1 (pc := 50) (ls := [(3, .int l3_2), (0, .ref 49), (1, .ref 1), (2, .int x2)]) (st := [.int 0, .int x2, .ref 50]) (h := ks i2 a2 q2 r2) (i := (.invokevirtual 85, 3, 27, 0, 9, 0, 240)) (mi_k63.2 _ _ (by rfl)) (ft_invS mi_pq27 (by rfl)) (cy := mi_c27) mi_pq27 rfl (kc27_50_m hG4.I hG4.R x2 0) (by decide) ?_
        intro vg5 hg5
        exact ft_ret mi_k63 rfl (hP vg5 _ _ _ _ hG4 trivial)
      ·
        have c6 : l3_2.toInt < (i2 3138).toInt := kd_leF c; clear c
        refine fo_goS mi_k63 fz63_18_2_21 [.int 20, .int l3_2] rfl ?_
        refine ft_ifS mi_k63 (decide (20 ≤ l3_2)) 44 24 [] rfl (fun c => ?_) (fun c => ?_)
        ·
          have c7 : (20 : Int32).toInt ≤ l3_2.toInt := kd_le c; clear c
          exact (oz1031 c6 c7 fi2_3138.2 kn20).elim
        ·
          have c8 : l3_2.toInt < (20 : Int32).toInt := kd_leF c; clear c
          refine fo_goS mi_k63 fz63_24_5_33 [.int l3_2, .ref 74, .ref 50] rfl ?_
          refine ko_iald3 mi_k63.1 (n := 20) (c := 20) (ax := (0, 0, 0, 0, 0)) (mi_k63.2 _ _ (by rfl)) (by rfl) (ksG74 _ _ _ _) (hL2.I.2.1 74) rfl (oz3 p2_0) (oz1013 c8 kn20) ?_
          refine ko_callI mi_k63.1 (pc := 34) (ls := [(3, .int l3_2), (0, .ref 49), (1, .ref 1), (2, .int x2)]) (st := [.int ((a2 74).getD l3_2.toNatClampNeg 0), .ref 50]) (h := ks i2 a2 q2 r2) (i := (.invokevirtual 63, 3, 29, 0, 9, 0, 220)) (mi_k63.2 _ _ (by rfl)) (ft_invS mi_pq29 (by rfl)) (cy := mi_c29) mi_pq29 rfl (kc29_50_m hL2.I hL2.R ((a2 74).getD l3_2.toNatClampNeg 0)) (by decide) ?_
          intro vg9 ig9 ag9 qg9 rg9 kg9 hg9
          have hGg9 := kG_call hL2 kg9 (by decide +kernel)
          have s10 : (l3_2 + 1).toInt = l3_2.toInt + (1 : Int32).toInt := kd_add (oz12 p2_0 kn1) (oz1014 c8 kn20 kn1)
          first | refine fo_goL mi_k63 fz63_37_3_10 [(3, .int (l3_2 + 1)), (0, .ref 49), (1, .ref 1), (2, .int x2)] [] (by rfl) ?_ | refine ft_goL mi_k63 3 10 [(3, .int (l3_2 + 1)), (0, .ref 49), (1, .ref 1), (2, .int x2)] [] (by rfl) ?_ | refine ft_go mi_k63 3 10 [(3, .int (l3_2 + 1)), (0, .ref 49), (1, .ref 1), (2, .int x2)] [] ig9 ag9 qg9 rg9 (by rfl) ?_
          exact ih2 _ _ _ _ _ hGg9 (oz14 p2_0 s10 kn1) (kj_meas (oz218 s10 kn1) (oz225 c8 kn20) hm2)
  exact lp2 _ _ _ _ _ _ (kG_self _ hGg1.I hGg1.R) (oz46 kn0) (Nat.lt_succ_self _)
def w64_49_m : kW := ([], [74], [], [])
set_option maxRecDepth 100000 in
theorem kc64_49_m {i : Nat → Int32} {a : Nat → List Int32} {q : Nat → List Int64} {r : Nat → Nat} (hI : kI i a q) (hr : kr r) (x1 : Int32) (x2 : Int32) (hp0 : ((0 : Int) ≤ x1.toInt) ∧ (x1.toInt ≤ 19)) (hp1 : ((0 : Int) ≤ x2.toInt) ∧ (x2.toInt ≤ 19)) : km 1 64 [.ref 49, .int x1, .int x2] (ks i a q r) (kVN w64_49_m i a q r (fun i1 a1 q1 r1 => True)) := by
  have hG := kG_self w64_49_m hI hr
  refine km_ofN (q := (mi_h64, mi_c64)) rfl (by decide) (Nat.le_of_ble_eq_true rfl) ?_
  intro P hP
  refine fo_goL mi_k64 fz64_0_3_5 [(0, .ref 49), (1, .int x1), (2, .int x2)] [.int x1, .ref 74] rfl ?_
  refine ko_iald3 mi_k64.1 (n := 20) (c := 20) (ax := (0, 0, 0, 0, 0)) (mi_k64.2 _ _ (by rfl)) (by rfl) (ksG74 _ _ _ _) (hG.I.2.1 74) rfl (oz3 hp0.1) (oz1065_m hp0.2) ?_
  refine fo_goL mi_k64 fz64_6_7_17 [(3, .int ((a 74).getD x1.toNatClampNeg 0)), (0, .ref 49), (1, .int x1), (2, .int x2)] [.int x2, .ref 74, .int x1, .ref 74] rfl ?_
  refine ko_iald3 mi_k64.1 (n := 20) (c := 20) (ax := (0, 0, 0, 0, 0)) (mi_k64.2 _ _ (by rfl)) (by rfl) (ksG74 _ _ _ _) (hG.I.2.1 74) rfl (oz3 hp1.1) (oz1065_m hp1.2) ?_
  refine ko_iast3 mi_k64.1 (n := 20) (c := 20) (ax := (0, 0, 0, 0, 0)) (mi_k64.2 _ _ (by rfl)) (by rfl) (ksG74 _ _ _ _) (ksA74 _ _ _ _) (hG.I.2.1 74) rfl (oz3 hp0.1) (oz1065_m hp0.2) ?_
  intro a1 ea1 fa1
  have hJ1 := kG_a3 hG 74 rfl ea1 fa1 (kd_bd _)
  refine fo_goS mi_k64 fz64_19_4_25 [.int ((a 74).getD x1.toNatClampNeg 0), .int x2, .ref 74] rfl ?_
  refine ko_iast3 mi_k64.1 (n := 20) (c := 20) (ax := (0, 0, 0, 0, 0)) (mi_k64.2 _ _ (by rfl)) (by rfl) (ksG74 _ _ _ _) (ksA74 _ _ _ _) (hJ1.I.2.1 74) rfl (oz3 hp1.1) (oz1065_m hp1.2) ?_
  intro a2 ea2 fa2
  have hJ2 := kG_a3 hJ1 74 rfl ea2 fa2 (kd_bd _)
  exact ft_ret mi_k64 rfl (hP  _ _ _ _ hJ2 trivial)
def w66_49_1_m : kW := ([645, 3138, 3142, 3200, 3206, 3207, 3208, 3209, 3214, 3215, 3216, 3586, 3781, 6405], [13, 51, 52, 53, 54, 55, 57, 58, 62, 63, 65, 66, 67, 68, 69, 70, 71, 72, 73, 74, 103], [], [1])
def w66_49_1_L16_m : kW := ([645, 3142, 3200, 3206, 3207, 3208, 3209, 3214, 3215, 3216, 3586, 3781, 6405], [13, 51, 52, 53, 54, 55, 57, 58, 62, 63, 65, 66, 67, 68, 69, 70, 71, 72, 73, 74, 103], [], [1])
set_option maxRecDepth 100000 in
theorem kc66_49_1_m {i : Nat → Int32} {a : Nat → List Int32} {q : Nat → List Int64} {r : Nat → Nat} (hI : kI i a q) (hr : kr r) (x2 : Int32) : km 11 66 [.ref 49, .ref 1, .int x2] (ks i a q r) (kVI w66_49_1_m i a q r (fun v i1 a1 q1 r1 => True)) := by
  have hG := kG_self w66_49_1_m hI hr
  refine km_ofI (q := (mi_h66, mi_c66)) rfl (by decide) (Nat.le_of_ble_eq_true rfl) ?_
  intro P hP
  have hJ1 := kG_i hG 3142 rfl (v := (-1)) (kd_bd _)
  first | refine fo_go mi_k66 fz66_0_8_10 [(3, .int 0), (0, .ref 49), (1, .ref 1), (2, .int x2)] [.int x2, .int 0, .ref 49] (ku i 3142 (-1)) a q r (by rfl) ?_ | refine ft_go mi_k66 8 10 [(3, .int 0), (0, .ref 49), (1, .ref 1), (2, .int x2)] [.int x2, .int 0, .ref 49] (ku i 3142 (-1)) a q r (by rfl) ?_
  refine ko_callN mi_k66.1 (pc := 10) (ls := [(3, .int 0), (0, .ref 49), (1, .ref 1), (2, .int x2)]) (st := [.int x2, .int 0, .ref 49]) (h := ks (ku i 3142 (-1)) a q r) (i := (.invokevirtual 95, 3, 65, 0, 9, 0, 237)) (mi_k66.2 _ _ (by rfl)) (ft_invS mi_pq65 (by rfl)) (cy := mi_c65) mi_pq65 rfl (kc65_49_m hJ1.I hJ1.R 0 x2) (by decide) ?_
  intro ig2 ag2 qg2 rg2 kg2 hg2
  have hGg2 := kG_call hJ1 kg2 (by decide +kernel)
  first | refine fo_goL mi_k66 fz66_13_2_16 [(4, .int 0), (3, .int 0), (0, .ref 49), (1, .ref 1), (2, .int x2)] [] (by rfl) ?_ | refine fo_goL mi_k66 fz66_72_2_16 [(4, .int 0), (3, .int 0), (0, .ref 49), (1, .ref 1), (2, .int x2)] [] (by rfl) ?_
  have lp3 : ∀ (nz : Nat) (i3 : Nat → Int32) (a3 : Nat → List Int32) (q3 : Nat → List Int64) (r3 : Nat → Nat) (l4_3 : Int32) (l3_3 : Int32), kG w66_49_1_L16_m ig2 ag2 qg2 rg2 i3 a3 q3 r3 → (0 : Int) ≤ l4_3.toInt → (((i3 3138).toInt - l4_3.toInt)).toNat < nz → ko 11 (mi_h66, mi_c66) P (16, [(4, .int l4_3), (3, .int l3_3), (0, .ref 49), (1, .ref 1), (2, .int x2)], [], (0, 0), ks i3 a3 q3 r3) := by
    intro nz
    induction nz with
    | zero =>
      intro _ _ _ _ _ _ _ _ hm
      exact absurd hm (Nat.not_lt_zero _)
    | succ nz ih3 =>
      intro i3 a3 q3 r3 l4_3 l3_3 hL3 p3_0 hm3
      have fi3_3138 : ((0 : Int) ≤ (i3 3138).toInt) ∧ ((i3 3138).toInt ≤ 20) := hL3.I.1 3138
      refine fo_goL mi_k66 fz66_16_3_22 [(4, .int l4_3), (3, .int l3_3), (0, .ref 49), (1, .ref 1), (2, .int x2)] [.int (i3 3138), .int l4_3] rfl ?_
      refine ft_ifS mi_k66 (decide ((i3 3138) ≤ l4_3)) 78 25 [] rfl (fun c => ?_) (fun c => ?_)
      ·
        have c4 : (i3 3138).toInt ≤ l4_3.toInt := kd_le c; clear c
        have hG5 := kG_call hGg2 hL3 (by decide +kernel)
        refine fo_goS mi_k66 fz66_78_1_79 [.int l3_3] rfl ?_
        exact ft_ret mi_k66 rfl (hP l3_3 _ _ _ _ hG5 trivial)
      ·
        have c6 : l4_3.toInt < (i3 3138).toInt := kd_leF c; clear c
        refine fo_goS mi_k66 fz66_25_3_28 [.int x2, .ref 1, .ref 49] rfl ?_
        refine ko_callI mi_k66.1 (pc := 28) (ls := [(4, .int l4_3), (3, .int l3_3), (0, .ref 49), (1, .ref 1), (2, .int x2)]) (st := [.int x2, .ref 1, .ref 49]) (h := ks i3 a3 q3 r3) (i := (.invokevirtual 99, 3, 63, 0, 9, 0, 239)) (mi_k66.2 _ _ (by rfl)) (ft_invS mi_pq63 (by rfl)) (cy := mi_c63) mi_pq63 rfl (kc63_49_1_m hL3.I hL3.R x2) (by decide) ?_
        intro vg7 ig7 ag7 qg7 rg7 kg7 hg7
        have hGg7 := kG_call hL3 kg7 (by decide +kernel)
        refine fo_goL mi_k66 fz66_31_4_39 [(5, .int vg7), (4, .int l4_3), (3, .int l3_3), (0, .ref 49), (1, .ref 1), (2, .int x2)] [.int (ig7 3142), .int vg7] rfl ?_
        refine ft_ifS mi_k66 (decide (vg7 ≤ (ig7 3142))) 51 42 [] rfl (fun c => ?_) (fun c => ?_)
        ·
          have c8 : vg7.toInt ≤ (ig7 3142).toInt := kd_le c; clear c
          have s9 : (l4_3 + 1).toInt = l4_3.toInt + (1 : Int32).toInt := kd_add (oz12 p3_0 kn1) (oz1057_m c6 fi3_3138.2 kn1)
          have fig7_3138 : ((0 : Int) ≤ (ig7 3138).toInt) ∧ ((ig7 3138).toInt ≤ 20) := hGg7.I.1 3138
          have efig7_3138 : (ig7 3138).toInt = (i3 3138).toInt := kg7.ti 3138 rfl
          refine fo_goS mi_k66 fz66_51_5_59 [.int (ig7 3138), .int (l4_3 + 1)] rfl ?_
          refine ft_ifS mi_k66 (decide ((ig7 3138) ≤ (l4_3 + 1))) 72 62 [] rfl (fun c => ?_) (fun c => ?_)
          ·
            have c10 : (ig7 3138).toInt ≤ (l4_3 + 1).toInt := kd_le c; clear c
            first | refine fo_goL mi_k66 fz66_13_2_16 [(4, .int (l4_3 + 1)), (5, .int vg7), (3, .int l3_3), (0, .ref 49), (1, .ref 1), (2, .int x2)] [] (by rfl) ?_ | refine fo_goL mi_k66 fz66_72_2_16 [(4, .int (l4_3 + 1)), (5, .int vg7), (3, .int l3_3), (0, .ref 49), (1, .ref 1), (2, .int x2)] [] (by rfl) ?_
            refine ko_perm [(4, .int (l4_3 + 1)), (3, .int l3_3), (0, .ref 49), (1, .ref 1), (2, .int x2)] (List.forall_mem_cons.mpr ⟨(List.Mem.head _), (List.forall_mem_cons.mpr ⟨(List.Mem.tail _ (List.Mem.tail _ (List.Mem.head _))), (List.forall_mem_cons.mpr ⟨(List.Mem.tail _ (List.Mem.tail _ (List.Mem.tail _ (List.Mem.head _)))), (List.forall_mem_cons.mpr ⟨(List.Mem.tail _ (List.Mem.tail _ (List.Mem.tail _ (List.Mem.tail _ (List.Mem.head _))))), (List.forall_mem_cons.mpr ⟨(List.Mem.tail _ (List.Mem.tail _ (List.Mem.tail _ (List.Mem.tail _ (List.Mem.tail _ (List.Mem.head _)))))), (fun _ h => absurd h List.not_mem_nil)⟩)⟩)⟩)⟩)⟩) ?_
            exact ih3 _ _ _ _ _ _ hGg7 (oz14 p3_0 s9 kn1) (kj_meas (oz308 efig7_3138 s9 kn1) (oz45 c6) hm3)
          ·
            have c11 : (l4_3 + 1).toInt < (ig7 3138).toInt := kd_leF c; clear c
            refine fo_goS mi_k66 fz66_62_5_69 [.int (l4_3 + 1), .int l4_3, .ref 49] rfl ?_
            refine ko_callN mi_k66.1 (pc := 69) (ls := [(5, .int vg7), (4, .int l4_3), (3, .int l3_3), (0, .ref 49), (1, .ref 1), (2, .int x2)]) (st := [.int (l4_3 + 1), .int l4_3, .ref 49]) (h := ks ig7 ag7 qg7 rg7) (i := (.invokevirtual 103, 3, 64, 0, 9, 0, 241)) (mi_k66.2 _ _ (by rfl)) (ft_invS mi_pq64 (by rfl)) (cy := mi_c64) mi_pq64 rfl (kc64_49_m hGg7.I hGg7.R l4_3 (l4_3 + 1) (oz1066_m c6 fi3_3138.2 p3_0) (oz1067_m c11 fig7_3138.2 p3_0 s9 kn1)) (by decide) ?_
            intro ig12 ag12 qg12 rg12 kg12 hg12
            have hGg12 := kG_call hGg7 kg12 (by decide +kernel)
            first | refine fo_goL mi_k66 fz66_13_2_16 [(4, .int (l4_3 + 1)), (5, .int vg7), (3, .int l3_3), (0, .ref 49), (1, .ref 1), (2, .int x2)] [] (by rfl) ?_ | refine fo_goL mi_k66 fz66_72_2_16 [(4, .int (l4_3 + 1)), (5, .int vg7), (3, .int l3_3), (0, .ref 49), (1, .ref 1), (2, .int x2)] [] (by rfl) ?_
            refine ko_perm [(4, .int (l4_3 + 1)), (3, .int l3_3), (0, .ref 49), (1, .ref 1), (2, .int x2)] (List.forall_mem_cons.mpr ⟨(List.Mem.head _), (List.forall_mem_cons.mpr ⟨(List.Mem.tail _ (List.Mem.tail _ (List.Mem.head _))), (List.forall_mem_cons.mpr ⟨(List.Mem.tail _ (List.Mem.tail _ (List.Mem.tail _ (List.Mem.head _)))), (List.forall_mem_cons.mpr ⟨(List.Mem.tail _ (List.Mem.tail _ (List.Mem.tail _ (List.Mem.tail _ (List.Mem.head _))))), (List.forall_mem_cons.mpr ⟨(List.Mem.tail _ (List.Mem.tail _ (List.Mem.tail _ (List.Mem.tail _ (List.Mem.tail _ (List.Mem.head _)))))), (fun _ h => absurd h List.not_mem_nil)⟩)⟩)⟩)⟩)⟩) ?_
            have efig12_3138 : (ig12 3138).toInt = (ig7 3138).toInt := kg12.ti 3138 rfl
            exact ih3 _ _ _ _ _ _ hGg12 (oz14 p3_0 s9 kn1) (kj_meas (oz1068_m efig12_3138 efig7_3138 s9 kn1) (oz45 c6) hm3)
        ·
          have c13 : (ig7 3142).toInt < vg7.toInt := kd_leF c; clear c
          have hJ14 := kG_i hGg7 3142 rfl (v := vg7) (kd_bd _)
          have s15 : (l4_3 + 1).toInt = l4_3.toInt + (1 : Int32).toInt := kd_add (oz12 p3_0 kn1) (oz1057_m c6 fi3_3138.2 kn1)
          have fig7_3138 : ((0 : Int) ≤ (ig7 3138).toInt) ∧ ((ig7 3138).toInt ≤ 20) := hJ14.I.1 3138
          have efig7_3138 : (ig7 3138).toInt = (i3 3138).toInt := kg7.ti 3138 rfl
          first | refine fo_go mi_k66 fz66_42_10_59 [(3, .int l4_3), (5, .int vg7), (4, .int l4_3), (0, .ref 49), (1, .ref 1), (2, .int x2)] [.int (ig7 3138), .int (l4_3 + 1)] (ku ig7 3142 vg7) ag7 qg7 rg7 (by rfl) ?_ | refine ft_goL mi_k66 10 59 [(3, .int l4_3), (5, .int vg7), (4, .int l4_3), (0, .ref 49), (1, .ref 1), (2, .int x2)] [.int (ig7 3138), .int (l4_3 + 1)] (by rfl) ?_ | refine ft_go mi_k66 10 59 [(3, .int l4_3), (5, .int vg7), (4, .int l4_3), (0, .ref 49), (1, .ref 1), (2, .int x2)] [.int (ig7 3138), .int (l4_3 + 1)] (ku ig7 3142 vg7) ag7 qg7 rg7 (by rfl) ?_
          refine ft_ifS mi_k66 (decide ((ig7 3138) ≤ (l4_3 + 1))) 72 62 [] rfl (fun c => ?_) (fun c => ?_)
          ·
            have c16 : (ig7 3138).toInt ≤ (l4_3 + 1).toInt := kd_le c; clear c
            first | refine fo_goL mi_k66 fz66_13_2_16 [(4, .int (l4_3 + 1)), (3, .int l4_3), (5, .int vg7), (0, .ref 49), (1, .ref 1), (2, .int x2)] [] (by rfl) ?_ | refine fo_goL mi_k66 fz66_72_2_16 [(4, .int (l4_3 + 1)), (3, .int l4_3), (5, .int vg7), (0, .ref 49), (1, .ref 1), (2, .int x2)] [] (by rfl) ?_
            refine ko_perm [(4, .int (l4_3 + 1)), (3, .int l4_3), (0, .ref 49), (1, .ref 1), (2, .int x2)] (List.forall_mem_cons.mpr ⟨(List.Mem.head _), (List.forall_mem_cons.mpr ⟨(List.Mem.tail _ (List.Mem.head _)), (List.forall_mem_cons.mpr ⟨(List.Mem.tail _ (List.Mem.tail _ (List.Mem.tail _ (List.Mem.head _)))), (List.forall_mem_cons.mpr ⟨(List.Mem.tail _ (List.Mem.tail _ (List.Mem.tail _ (List.Mem.tail _ (List.Mem.head _))))), (List.forall_mem_cons.mpr ⟨(List.Mem.tail _ (List.Mem.tail _ (List.Mem.tail _ (List.Mem.tail _ (List.Mem.tail _ (List.Mem.head _)))))), (fun _ h => absurd h List.not_mem_nil)⟩)⟩)⟩)⟩)⟩) ?_
            exact ih3 _ _ _ _ _ _ hJ14 (oz14 p3_0 s15 kn1) (kj_meas (oz308 efig7_3138 s15 kn1) (oz45 c6) hm3)
          ·
            have c17 : (l4_3 + 1).toInt < (ig7 3138).toInt := kd_leF c; clear c
            refine fo_goS mi_k66 fz66_62_5_69 [.int (l4_3 + 1), .int l4_3, .ref 49] rfl ?_
            refine ko_callN mi_k66.1 (pc := 69) (ls := [(3, .int l4_3), (5, .int vg7), (4, .int l4_3), (0, .ref 49), (1, .ref 1), (2, .int x2)]) (st := [.int (l4_3 + 1), .int l4_3, .ref 49]) (h := ks (ku ig7 3142 vg7) ag7 qg7 rg7) (i := (.invokevirtual 103, 3, 64, 0, 9, 0, 241)) (mi_k66.2 _ _ (by rfl)) (ft_invS mi_pq64 (by rfl)) (cy := mi_c64) mi_pq64 rfl (kc64_49_m hJ14.I hJ14.R l4_3 (l4_3 + 1) (oz1066_m c6 fi3_3138.2 p3_0) (oz1067_m c17 fig7_3138.2 p3_0 s15 kn1)) (by decide) ?_
            intro ig18 ag18 qg18 rg18 kg18 hg18
            have hGg18 := kG_call hJ14 kg18 (by decide +kernel)
            first | refine fo_goL mi_k66 fz66_13_2_16 [(4, .int (l4_3 + 1)), (3, .int l4_3), (5, .int vg7), (0, .ref 49), (1, .ref 1), (2, .int x2)] [] (by rfl) ?_ | refine fo_goL mi_k66 fz66_72_2_16 [(4, .int (l4_3 + 1)), (3, .int l4_3), (5, .int vg7), (0, .ref 49), (1, .ref 1), (2, .int x2)] [] (by rfl) ?_
            refine ko_perm [(4, .int (l4_3 + 1)), (3, .int l4_3), (0, .ref 49), (1, .ref 1), (2, .int x2)] (List.forall_mem_cons.mpr ⟨(List.Mem.head _), (List.forall_mem_cons.mpr ⟨(List.Mem.tail _ (List.Mem.head _)), (List.forall_mem_cons.mpr ⟨(List.Mem.tail _ (List.Mem.tail _ (List.Mem.tail _ (List.Mem.head _)))), (List.forall_mem_cons.mpr ⟨(List.Mem.tail _ (List.Mem.tail _ (List.Mem.tail _ (List.Mem.tail _ (List.Mem.head _))))), (List.forall_mem_cons.mpr ⟨(List.Mem.tail _ (List.Mem.tail _ (List.Mem.tail _ (List.Mem.tail _ (List.Mem.tail _ (List.Mem.head _)))))), (fun _ h => absurd h List.not_mem_nil)⟩)⟩)⟩)⟩)⟩) ?_
            have efig18_3138 : (ig18 3138).toInt = (ig7 3138).toInt := kg18.ti 3138 rfl
            exact ih3 _ _ _ _ _ _ hGg18 (oz14 p3_0 s15 kn1) (kj_meas (oz1068_m efig18_3138 efig7_3138 s15 kn1) (oz45 c6) hm3)
  exact lp3 _ _ _ _ _ _ _ (kG_self _ hGg2.I hGg2.R) (oz46 kn0) (Nat.lt_succ_self _)
def w91_0_m : kW := ([645, 3138, 3142, 3200, 3206, 3207, 3208, 3209, 3214, 3215, 3216, 3586, 3781, 6405], [13, 51, 52, 53, 54, 55, 57, 58, 62, 63, 65, 66, 67, 68, 69, 70, 71, 72, 73, 74, 103], [], [1])
set_option maxRecDepth 100000 in
theorem kc91_0_m {i : Nat → Int32} {a : Nat → List Int32} {q : Nat → List Int64} {r : Nat → Nat} (hI : kI i a q) (hr : kr r) (x1 : Int32) (x2 : Int32) (x3 : Int32) : km 13 91 [.ref 0, .int x1, .int x2, .int x3] (ks i a q r) (kVI w91_0_m i a q r (fun v i1 a1 q1 r1 => True)) := by
  have hG := kG_self w91_0_m hI hr
  refine km_ofI (q := (mi_h91, mi_c91)) rfl (by decide) (Nat.le_of_ble_eq_true rfl) ?_
  intro P hP
  refine fo_goL mi_k91 fz91_0_2_2 [(0, .ref 0), (1, .int x1), (2, .int x2), (3, .int x3)] [.int x2, .ref 0] rfl ?_
  refine ko_callPI mi_k91.1 (pc := 2) (ls := [(0, .ref 0), (1, .int x1), (2, .int x2), (3, .int x3)]) (st := [.int x2, .ref 0]) (h := ks i a q r) (i := (.invokevirtual 141, 3, 123, 0, 9, 0, 162)) (mi_k91.2 _ _ (by rfl)) (ft_invS mi_pq123 (by rfl)) (cy := mi_c123) mi_pq123 rfl (kc123_0 hG.I hG.R x2) (by decide) ?_
  intro vg1 hg1
  rcases hg1 with ⟨eg1, hg1⟩ | ⟨eg1, hg1⟩
  ·
    subst eg1
    refine fo_goS mi_k91 fz91_5_4_11 [.int 1, .int 0, .int x3] rfl ?_
    refine ko_callPI mi_k91.1 (pc := 11) (ls := [(0, .ref 0), (1, .int x1), (2, .int x2), (3, .int x3)]) (st := [.int 1, .int 0, .int x3]) (h := ks i a q r) (i := (.invokestatic 74, 3, 120, 0, 9, 0, 152)) (mi_k91.2 _ _ (by rfl)) (ft_invS mi_pq120 (by rfl)) (cy := mi_c120) mi_pq120 rfl (kc120 hG.I hG.R x3 0 1) (by decide) ?_
    intro vg3 hg3
    rcases hg3 with ⟨eg3, hg3⟩ | ⟨eg3, hg3⟩
    ·
      subst eg3
      refine fo_goS mi_k91 fz91_14_3_21 [.int x1, .ref 0] rfl ?_
      refine ko_callI mi_k91.1 (pc := 21) (ls := [(0, .ref 0), (1, .int x1), (2, .int x2), (3, .int x3)]) (st := [.int x1, .ref 0]) (h := ks i a q r) (i := (.invokevirtual 144, 3, 129, 0, 9, 0, 208)) (mi_k91.2 _ _ (by rfl)) (ft_invS mi_pq129 (by rfl)) (cy := mi_c129) mi_pq129 rfl (kc129_0 hG.I hG.R x1) (by decide) ?_
      intro vg5 ig5 ag5 qg5 rg5 kg5 hg5
      have hGg5 := kG_call hG kg5 (by decide +kernel)
      refine fo_goL mi_k91 fz91_24_2_28 [(4, .int vg5), (0, .ref 0), (1, .int x1), (2, .int x2), (3, .int x3)] [.int vg5] rfl ?_
      refine ft_ifS mi_k91 (decide (0 ≤ vg5)) 34 31 [] rfl (fun c => ?_) (fun c => ?_)
      ·
        have c7 : (0 : Int32).toInt ≤ vg5.toInt := kd_le c; clear c
        refine fo_goS mi_k91 fz91_34_4_43 [.int 20, .int (ig5 3138)] rfl ?_
        refine ft_ifS mi_k91 (decide ((ig5 3138) < 20)) 49 46 [] rfl (fun c => ?_) (fun c => ?_)
        ·
          have c8 : (ig5 3138).toInt < (20 : Int32).toInt := kd_lt c; clear c
          refine fo_goS mi_k91 fz91_49_5_58 [.int x2, .ref 1, .ref 49] rfl ?_
          refine ko_callI mi_k91.1 (pc := 58) (ls := [(4, .int vg5), (0, .ref 0), (1, .int x1), (2, .int x2), (3, .int x3)]) (st := [.int x2, .ref 1, .ref 49]) (h := ks ig5 ag5 qg5 rg5) (i := (.invokevirtual 174, 3, 66, 0, 9, 0, 236)) (mi_k91.2 _ _ (by rfl)) (ft_invS mi_pq66 (by rfl)) (cy := mi_c66) mi_pq66 rfl (kc66_49_1_m hGg5.I hGg5.R x2) (by decide) ?_
          intro vg9 ig9 ag9 qg9 rg9 kg9 hg9
          have hGg9 := kG_call hGg5 kg9 (by decide +kernel)
          refine fo_goL mi_k91 fz91_61_2_64 [(5, .int vg9), (4, .int vg5), (0, .ref 0), (1, .int x1), (2, .int x2), (3, .int x3)] [.int x3] rfl ?_
          refine ft_ifS mi_k91 (x3 != 0) 72 67 [] rfl (fun c => ?_) (fun c => ?_)
          ·
            have c10 : x3.toInt ≠ (0 : Int32).toInt := kd_ne c; clear c
            first | refine fo_goS mi_k91 fz91_64_3_79 [.int (ig9 3142)] (by rfl) ?_ | refine fo_goS mi_k91 fz91_72_3_79 [.int (ig9 3142)] (by rfl) ?_
            exact ft_ret mi_k91 rfl (hP (ig9 3142) _ _ _ _ hGg9 trivial)
          ·
            have c11 : x3.toInt = (0 : Int32).toInt := kd_neF c; clear c
            first | refine fo_goS mi_k91 fz91_67_2_79 [.int vg9] (by rfl) ?_ | refine fo_goS mi_k91 fz91_73_2_79 [.int vg9] (by rfl) ?_
            exact ft_ret mi_k91 rfl (hP vg9 _ _ _ _ hGg9 trivial)
        ·
          have c12 : (20 : Int32).toInt ≤ (ig5 3138).toInt := kd_ltF c; clear c
          refine fo_goS mi_k91 fz91_46_1_48 [.int (-5)] rfl ?_
          exact ft_ret mi_k91 rfl (hP (-5) _ _ _ _ hGg5 trivial)
      ·
        have c13 : vg5.toInt < (0 : Int32).toInt := kd_leF c; clear c
        refine fo_goS mi_k91 fz91_31_1_33 [.int vg5] rfl ?_
        exact ft_ret mi_k91 rfl (hP vg5 _ _ _ _ hGg5 trivial)
    ·
      subst eg3
      first | refine fo_goS mi_k91 fz91_5_2_18 [.int (-1)] (by rfl) ?_ | refine fo_goS mi_k91 fz91_14_2_18 [.int (-1)] (by rfl) ?_
      exact ft_ret mi_k91 rfl (hP (-1) _ _ _ _ hG trivial)
  ·
    subst eg1
    first | refine fo_goS mi_k91 fz91_5_2_18 [.int (-1)] (by rfl) ?_ | refine fo_goS mi_k91 fz91_14_2_18 [.int (-1)] (by rfl) ?_
    exact ft_ret mi_k91 rfl (hP (-1) _ _ _ _ hG trivial)
def w67_49_1_m : kW := ([645, 3138, 3142, 3200, 3206, 3207, 3208, 3209, 3214, 3215, 3216, 3586, 3781, 6405], [13, 51, 52, 53, 54, 55, 57, 58, 62, 63, 65, 66, 67, 68, 69, 70, 71, 72, 73, 74, 103], [], [1])
def w67_49_1_L17_m : kW := ([645, 3142, 3200, 3206, 3207, 3208, 3209, 3214, 3215, 3216, 3586, 3781, 6405], [13, 51, 52, 53, 54, 55, 57, 58, 62, 63, 65, 66, 67, 68, 69, 70, 71, 72, 73, 74, 103], [], [1])
set_option maxRecDepth 100000 in
theorem kc67_49_1_m {i : Nat → Int32} {a : Nat → List Int32} {q : Nat → List Int64} {r : Nat → Nat} (hI : kI i a q) (hr : kr r) (x2 : Int32) (x3 : Int32) (hp0 : ((0 : Int) ≤ x2.toInt) ∧ (x2.toInt ≤ 19)) : km 11 67 [.ref 49, .ref 1, .int x2, .int x3] (ks i a q r) (kVI w67_49_1_m i a q r (fun v i1 a1 q1 r1 => True)) := by
  have hG := kG_self w67_49_1_m hI hr
  refine km_ofI (q := (mi_h67, mi_c67)) rfl (by decide) (Nat.le_of_ble_eq_true rfl) ?_
  intro P hP
  have hJ1 := kG_i hG 3142 rfl (v := (-1)) (kd_bd _)
  first | refine fo_go mi_k67 fz67_0_8_11 [(4, .int 0), (0, .ref 49), (1, .ref 1), (2, .int x2), (3, .int x3)] [.int 0, .int x2, .ref 49] (ku i 3142 (-1)) a q r (by rfl) ?_ | refine ft_go mi_k67 8 11 [(4, .int 0), (0, .ref 49), (1, .ref 1), (2, .int x2), (3, .int x3)] [.int 0, .int x2, .ref 49] (ku i 3142 (-1)) a q r (by rfl) ?_
  refine ko_callN mi_k67.1 (pc := 11) (ls := [(4, .int 0), (0, .ref 49), (1, .ref 1), (2, .int x2), (3, .int x3)]) (st := [.int 0, .int x2, .ref 49]) (h := ks (ku i 3142 (-1)) a q r) (i := (.invokevirtual 95, 3, 65, 0, 9, 0, 237)) (mi_k67.2 _ _ (by rfl)) (ft_invS mi_pq65 (by rfl)) (cy := mi_c65) mi_pq65 rfl (kc65_49_m hJ1.I hJ1.R x2 0) (by decide) ?_
  intro ig2 ag2 qg2 rg2 kg2 hg2
  have hGg2 := kG_call hJ1 kg2 (by decide +kernel)
  first | refine fo_goL mi_k67 fz67_14_2_17 [(5, .int 0), (4, .int 0), (0, .ref 49), (1, .ref 1), (2, .int x2), (3, .int x3)] [] (by rfl) ?_ | refine fo_goL mi_k67 fz67_61_2_17 [(5, .int 0), (4, .int 0), (0, .ref 49), (1, .ref 1), (2, .int x2), (3, .int x3)] [] (by rfl) ?_
  have lp3 : ∀ (nz : Nat) (i3 : Nat → Int32) (a3 : Nat → List Int32) (q3 : Nat → List Int64) (r3 : Nat → Nat) (l5_3 : Int32) (l4_3 : Int32), kG w67_49_1_L17_m ig2 ag2 qg2 rg2 i3 a3 q3 r3 → (0 : Int) ≤ l5_3.toInt → (((i3 64).toInt - l5_3.toInt)).toNat < nz → ko 11 (mi_h67, mi_c67) P (17, [(5, .int l5_3), (4, .int l4_3), (0, .ref 49), (1, .ref 1), (2, .int x2), (3, .int x3)], [], (0, 0), ks i3 a3 q3 r3) := by
    intro nz
    induction nz with
    | zero =>
      intro _ _ _ _ _ _ _ _ hm
      exact absurd hm (Nat.not_lt_zero _)
    | succ nz ih3 =>
      intro i3 a3 q3 r3 l5_3 l4_3 hL3 p3_0 hm3
      have fi3_64 : ((0 : Int) ≤ (i3 64).toInt) ∧ ((i3 64).toInt ≤ 8) := hL3.I.1 64
      refine fo_goL mi_k67 fz67_17_3_23 [(5, .int l5_3), (4, .int l4_3), (0, .ref 49), (1, .ref 1), (2, .int x2), (3, .int x3)] [.int (i3 64), .int l5_3] rfl ?_
      refine ft_ifS mi_k67 (decide ((i3 64) ≤ l5_3)) 67 26 [] rfl (fun c => ?_) (fun c => ?_)
      ·
        have c4 : (i3 64).toInt ≤ l5_3.toInt := kd_le c; clear c
        have hG5 := kG_call hGg2 hL3 (by decide +kernel)
        refine fo_goS mi_k67 fz67_67_1_69 [.int l4_3] rfl ?_
        exact ft_ret mi_k67 rfl (hP l4_3 _ _ _ _ hG5 trivial)
      ·
        have c6 : l5_3.toInt < (i3 64).toInt := kd_leF c; clear c
        refine fo_goS mi_k67 fz67_26_4_33 [.int l5_3, .int x2, .ref 74] rfl ?_
        refine ko_iast3 mi_k67.1 (n := 20) (c := 20) (ax := (0, 0, 0, 0, 0)) (mi_k67.2 _ _ (by rfl)) (by rfl) (ksG74 _ _ _ _) (ksA74 _ _ _ _) (hL3.I.2.1 74) rfl (oz3 hp0.1) (oz1065_m hp0.2) ?_
        intro a7 ea7 fa7
        have hJ7 := kG_a3 hL3 74 rfl ea7 fa7 (kd_bd _)
        refine fo_goS mi_k67 fz67_34_3_37 [.int x3, .ref 1, .ref 49] rfl ?_
        refine ko_callI mi_k67.1 (pc := 37) (ls := [(5, .int l5_3), (4, .int l4_3), (0, .ref 49), (1, .ref 1), (2, .int x2), (3, .int x3)]) (st := [.int x3, .ref 1, .ref 49]) (h := ks i3 a7 q3 r3) (i := (.invokevirtual 99, 3, 63, 0, 9, 0, 239)) (mi_k67.2 _ _ (by rfl)) (ft_invS mi_pq63 (by rfl)) (cy := mi_c63) mi_pq63 rfl (kc63_49_1_m hJ7.I hJ7.R x3) (by decide) ?_
        intro vg8 ig8 ag8 qg8 rg8 kg8 hg8
        have hGg8 := kG_call hJ7 kg8 (by decide +kernel)
        refine fo_goL mi_k67 fz67_40_4_48 [(6, .int vg8), (5, .int l5_3), (4, .int l4_3), (0, .ref 49), (1, .ref 1), (2, .int x2), (3, .int x3)] [.int (ig8 3142), .int vg8] rfl ?_
        refine ft_ifS mi_k67 (decide (vg8 ≤ (ig8 3142))) 61 51 [] rfl (fun c => ?_) (fun c => ?_)
        ·
          have c9 : vg8.toInt ≤ (ig8 3142).toInt := kd_le c; clear c
          have s10 : (l5_3 + 1).toInt = l5_3.toInt + (1 : Int32).toInt := kd_add (oz12 p3_0 kn1) (oz442 c6 fi3_64.2 kn1)
          first | refine fo_goL mi_k67 fz67_14_2_17 [(5, .int (l5_3 + 1)), (6, .int vg8), (4, .int l4_3), (0, .ref 49), (1, .ref 1), (2, .int x2), (3, .int x3)] [] (by rfl) ?_ | refine fo_goL mi_k67 fz67_61_2_17 [(5, .int (l5_3 + 1)), (6, .int vg8), (4, .int l4_3), (0, .ref 49), (1, .ref 1), (2, .int x2), (3, .int x3)] [] (by rfl) ?_
          refine ko_perm [(5, .int (l5_3 + 1)), (4, .int l4_3), (0, .ref 49), (1, .ref 1), (2, .int x2), (3, .int x3)] (List.forall_mem_cons.mpr ⟨(List.Mem.head _), (List.forall_mem_cons.mpr ⟨(List.Mem.tail _ (List.Mem.tail _ (List.Mem.head _))), (List.forall_mem_cons.mpr ⟨(List.Mem.tail _ (List.Mem.tail _ (List.Mem.tail _ (List.Mem.head _)))), (List.forall_mem_cons.mpr ⟨(List.Mem.tail _ (List.Mem.tail _ (List.Mem.tail _ (List.Mem.tail _ (List.Mem.head _))))), (List.forall_mem_cons.mpr ⟨(List.Mem.tail _ (List.Mem.tail _ (List.Mem.tail _ (List.Mem.tail _ (List.Mem.tail _ (List.Mem.head _)))))), (List.forall_mem_cons.mpr ⟨(List.Mem.tail _ (List.Mem.tail _ (List.Mem.tail _ (List.Mem.tail _ (List.Mem.tail _ (List.Mem.tail _ (List.Mem.head _))))))), (fun _ h => absurd h List.not_mem_nil)⟩)⟩)⟩)⟩)⟩)⟩) ?_
          have efig8_64 : (ig8 64).toInt = (i3 64).toInt := kg8.ti 64 rfl
          exact ih3 _ _ _ _ _ _ hGg8 (oz14 p3_0 s10 kn1) (kj_meas (oz308 efig8_64 s10 kn1) (oz45 c6) hm3)
        ·
          have c11 : (ig8 3142).toInt < vg8.toInt := kd_leF c; clear c
          have hJ12 := kG_i hGg8 3142 rfl (v := vg8) (kd_bd _)
          have s13 : (l5_3 + 1).toInt = l5_3.toInt + (1 : Int32).toInt := kd_add (oz12 p3_0 kn1) (oz442 c6 fi3_64.2 kn1)
          first | refine fo_go mi_k67 fz67_51_7_17 [(5, .int (l5_3 + 1)), (4, .int l5_3), (6, .int vg8), (0, .ref 49), (1, .ref 1), (2, .int x2), (3, .int x3)] [] (ku ig8 3142 vg8) ag8 qg8 rg8 (by rfl) ?_ | refine ft_go mi_k67 7 17 [(5, .int (l5_3 + 1)), (4, .int l5_3), (6, .int vg8), (0, .ref 49), (1, .ref 1), (2, .int x2), (3, .int x3)] [] (ku ig8 3142 vg8) ag8 qg8 rg8 (by rfl) ?_ | refine ft_goL mi_k67 7 17 [(5, .int (l5_3 + 1)), (4, .int l5_3), (6, .int vg8), (0, .ref 49), (1, .ref 1), (2, .int x2), (3, .int x3)] [] (by rfl) ?_
          refine ko_perm [(5, .int (l5_3 + 1)), (4, .int l5_3), (0, .ref 49), (1, .ref 1), (2, .int x2), (3, .int x3)] (List.forall_mem_cons.mpr ⟨(List.Mem.head _), (List.forall_mem_cons.mpr ⟨(List.Mem.tail _ (List.Mem.head _)), (List.forall_mem_cons.mpr ⟨(List.Mem.tail _ (List.Mem.tail _ (List.Mem.tail _ (List.Mem.head _)))), (List.forall_mem_cons.mpr ⟨(List.Mem.tail _ (List.Mem.tail _ (List.Mem.tail _ (List.Mem.tail _ (List.Mem.head _))))), (List.forall_mem_cons.mpr ⟨(List.Mem.tail _ (List.Mem.tail _ (List.Mem.tail _ (List.Mem.tail _ (List.Mem.tail _ (List.Mem.head _)))))), (List.forall_mem_cons.mpr ⟨(List.Mem.tail _ (List.Mem.tail _ (List.Mem.tail _ (List.Mem.tail _ (List.Mem.tail _ (List.Mem.tail _ (List.Mem.head _))))))), (fun _ h => absurd h List.not_mem_nil)⟩)⟩)⟩)⟩)⟩)⟩) ?_
          have efig8_64 : (ig8 64).toInt = (i3 64).toInt := kg8.ti 64 rfl
          exact ih3 _ _ _ _ _ _ hJ12 (oz14 p3_0 s13 kn1) (kj_meas (oz308 efig8_64 s13 kn1) (oz45 c6) hm3)
  exact lp3 _ _ _ _ _ _ _ (kG_self _ hGg2.I hGg2.R) (oz46 kn0) (Nat.lt_succ_self _)
def w92_0_m : kW := ([645, 3138, 3142, 3200, 3206, 3207, 3208, 3209, 3214, 3215, 3216, 3586, 3781, 6405], [13, 51, 52, 53, 54, 55, 57, 58, 62, 63, 65, 66, 67, 68, 69, 70, 71, 72, 73, 74, 103], [], [1])
set_option maxRecDepth 100000 in
theorem kc92_0_m {i : Nat → Int32} {a : Nat → List Int32} {q : Nat → List Int64} {r : Nat → Nat} (hI : kI i a q) (hr : kr r) (x1 : Int32) (x2 : Int32) (x3 : Int32) (x4 : Int32) : km 13 92 [.ref 0, .int x1, .int x2, .int x3, .int x4] (ks i a q r) (kVI w92_0_m i a q r (fun v i1 a1 q1 r1 => True)) := by
  have hG := kG_self w92_0_m hI hr
  refine km_ofI (q := (mi_h92, mi_c92)) rfl (by decide) (Nat.le_of_ble_eq_true rfl) ?_
  intro P hP
  refine fo_goL mi_k92 fz92_0_1_1 [(0, .ref 0), (1, .int x1), (2, .int x2), (3, .int x3), (4, .int x4)] [.int x2] rfl ?_
  refine ft_ifS mi_k92 (decide (x2 < 0)) 22 4 [] rfl (fun c => ?_) (fun c => ?_)
  ·
    have c1 : x2.toInt < (0 : Int32).toInt := kd_lt c; clear c
    refine fo_goS mi_k92 fz92_22_1_23 [.int (-1)] rfl ?_
    exact ft_ret mi_k92 rfl (hP (-1) _ _ _ _ hG trivial)
  ·
    have c2 : (0 : Int32).toInt ≤ x2.toInt := kd_ltF c; clear c
    refine fo_goS mi_k92 fz92_4_2_6 [.int x3, .ref 0] rfl ?_
    refine ko_callPI mi_k92.1 (pc := 6) (ls := [(0, .ref 0), (1, .int x1), (2, .int x2), (3, .int x3), (4, .int x4)]) (st := [.int x3, .ref 0]) (h := ks i a q r) (i := (.invokevirtual 141, 3, 123, 0, 9, 0, 162)) (mi_k92.2 _ _ (by rfl)) (ft_invS mi_pq123 (by rfl)) (cy := mi_c123) mi_pq123 rfl (kc123_0 hG.I hG.R x3) (by decide) ?_
    intro vg3 hg3
    rcases hg3 with ⟨eg3, hg3⟩ | ⟨eg3, hg3⟩
    ·
      subst eg3
      refine fo_goS mi_k92 fz92_9_4_16 [.int 1, .int 0, .int x4] rfl ?_
      refine ko_callPI mi_k92.1 (pc := 16) (ls := [(0, .ref 0), (1, .int x1), (2, .int x2), (3, .int x3), (4, .int x4)]) (st := [.int 1, .int 0, .int x4]) (h := ks i a q r) (i := (.invokestatic 74, 3, 120, 0, 9, 0, 152)) (mi_k92.2 _ _ (by rfl)) (ft_invS mi_pq120 (by rfl)) (cy := mi_c120) mi_pq120 rfl (kc120 hG.I hG.R x4 0 1) (by decide) ?_
      intro vg5 hg5
      rcases hg5 with ⟨eg5, hg5⟩ | ⟨eg5, hg5⟩
      ·
        subst eg5
        refine fo_goS mi_k92 fz92_19_3_26 [.int x1, .ref 0] rfl ?_
        refine ko_callI mi_k92.1 (pc := 26) (ls := [(0, .ref 0), (1, .int x1), (2, .int x2), (3, .int x3), (4, .int x4)]) (st := [.int x1, .ref 0]) (h := ks i a q r) (i := (.invokevirtual 144, 3, 129, 0, 9, 0, 208)) (mi_k92.2 _ _ (by rfl)) (ft_invS mi_pq129 (by rfl)) (cy := mi_c129) mi_pq129 rfl (kc129_0 hG.I hG.R x1) (by decide) ?_
        intro vg7 ig7 ag7 qg7 rg7 kg7 hg7
        have hGg7 := kG_call hG kg7 (by decide +kernel)
        refine fo_goL mi_k92 fz92_29_2_33 [(5, .int vg7), (0, .ref 0), (1, .int x1), (2, .int x2), (3, .int x3), (4, .int x4)] [.int vg7] rfl ?_
        refine ft_ifS mi_k92 (decide (0 ≤ vg7)) 39 36 [] rfl (fun c => ?_) (fun c => ?_)
        ·
          have c9 : (0 : Int32).toInt ≤ vg7.toInt := kd_le c; clear c
          refine fo_goS mi_k92 fz92_39_4_47 [.int (ig7 3138), .int x2] rfl ?_
          refine ft_ifS mi_k92 (decide (x2 ≤ (ig7 3138))) 52 50 [] rfl (fun c => ?_) (fun c => ?_)
          ·
            have c10 : x2.toInt ≤ (ig7 3138).toInt := kd_le c; clear c
            refine fo_goS mi_k92 fz92_52_4_61 [.int 20, .int (ig7 3138)] rfl ?_
            refine ft_ifS mi_k92 (decide ((ig7 3138) < 20)) 67 64 [] rfl (fun c => ?_) (fun c => ?_)
            ·
              have c11 : (ig7 3138).toInt < (20 : Int32).toInt := kd_lt c; clear c
              refine fo_goS mi_k92 fz92_67_6_77 [.int x3, .int x2, .ref 1, .ref 49] rfl ?_
              refine ko_callI mi_k92.1 (pc := 77) (ls := [(5, .int vg7), (0, .ref 0), (1, .int x1), (2, .int x2), (3, .int x3), (4, .int x4)]) (st := [.int x3, .int x2, .ref 1, .ref 49]) (h := ks ig7 ag7 qg7 rg7) (i := (.invokevirtual 181, 3, 67, 0, 9, 0, 243)) (mi_k92.2 _ _ (by rfl)) (ft_invS mi_pq67 (by rfl)) (cy := mi_c67) mi_pq67 rfl (kc67_49_1_m hGg7.I hGg7.R x2 x3 (oz1069_m c10 c11 c2 kn20 kn0)) (by decide) ?_
              intro vg12 ig12 ag12 qg12 rg12 kg12 hg12
              have hGg12 := kG_call hGg7 kg12 (by decide +kernel)
              refine fo_goL mi_k92 fz92_80_2_84 [(6, .int vg12), (5, .int vg7), (0, .ref 0), (1, .int x1), (2, .int x2), (3, .int x3), (4, .int x4)] [.int x4] rfl ?_
              refine ft_ifS mi_k92 (x4 != 0) 92 87 [] rfl (fun c => ?_) (fun c => ?_)
              ·
                have c13 : x4.toInt ≠ (0 : Int32).toInt := kd_ne c; clear c
                first | refine fo_goS mi_k92 fz92_84_3_99 [.int (ig12 3142)] (by rfl) ?_ | refine fo_goS mi_k92 fz92_92_3_99 [.int (ig12 3142)] (by rfl) ?_
                exact ft_ret mi_k92 rfl (hP (ig12 3142) _ _ _ _ hGg12 trivial)
              ·
                have c14 : x4.toInt = (0 : Int32).toInt := kd_neF c; clear c
                first | refine fo_goS mi_k92 fz92_87_2_99 [.int vg12] (by rfl) ?_ | refine fo_goS mi_k92 fz92_93_2_99 [.int vg12] (by rfl) ?_
                exact ft_ret mi_k92 rfl (hP vg12 _ _ _ _ hGg12 trivial)
            ·
              have c15 : (20 : Int32).toInt ≤ (ig7 3138).toInt := kd_ltF c; clear c
              refine fo_goS mi_k92 fz92_64_1_66 [.int (-5)] rfl ?_
              exact ft_ret mi_k92 rfl (hP (-5) _ _ _ _ hGg7 trivial)
          ·
            have c16 : (ig7 3138).toInt < x2.toInt := kd_leF c; clear c
            refine fo_goS mi_k92 fz92_50_1_51 [.int (-1)] rfl ?_
            exact ft_ret mi_k92 rfl (hP (-1) _ _ _ _ hGg7 trivial)
        ·
          have c17 : vg7.toInt < (0 : Int32).toInt := kd_leF c; clear c
          refine fo_goS mi_k92 fz92_36_1_38 [.int vg7] rfl ?_
          exact ft_ret mi_k92 rfl (hP vg7 _ _ _ _ hGg7 trivial)
      ·
        subst eg5
        first | refine fo_goS mi_k92 fz92_1_2_23 [.int (-1)] (by rfl) ?_ | refine fo_goS mi_k92 fz92_9_2_23 [.int (-1)] (by rfl) ?_ | refine fo_goS mi_k92 fz92_19_2_23 [.int (-1)] (by rfl) ?_
        exact ft_ret mi_k92 rfl (hP (-1) _ _ _ _ hG trivial)
    ·
      subst eg3
      first | refine fo_goS mi_k92 fz92_1_2_23 [.int (-1)] (by rfl) ?_ | refine fo_goS mi_k92 fz92_9_2_23 [.int (-1)] (by rfl) ?_ | refine fo_goS mi_k92 fz92_19_2_23 [.int (-1)] (by rfl) ?_
      exact ft_ret mi_k92 rfl (hP (-1) _ _ _ _ hG trivial)
def w68_49_1_m : kW := ([645, 3142, 3200, 3206, 3207, 3208, 3209, 3214, 3215, 3216, 3586, 3781, 6405], [13, 51, 52, 53, 54, 55, 57, 58, 62, 63, 65, 66, 67, 68, 69, 70, 71, 72, 73, 74, 103], [], [1])
def w68_49_1_L16_m : kW := ([645, 3142, 3200, 3206, 3207, 3208, 3209, 3214, 3215, 3216, 3586, 3781, 6405], [13, 51, 52, 53, 54, 55, 57, 58, 62, 63, 65, 66, 67, 68, 69, 70, 71, 72, 73, 74, 103], [], [1])
set_option maxRecDepth 100000 in
theorem kc68_49_1_m {i : Nat → Int32} {a : Nat → List Int32} {q : Nat → List Int64} {r : Nat → Nat} (hI : kI i a q) (hr : kr r) (x2 : Int32) : km 11 68 [.ref 49, .ref 1, .int x2] (ks i a q r) (kVI w68_49_1_m i a q r (fun v i1 a1 q1 r1 => True)) := by
  have hG := kG_self w68_49_1_m hI hr
  refine km_ofI (q := (mi_h68, mi_c68)) rfl (by decide) (Nat.le_of_ble_eq_true rfl) ?_
  intro P hP
  refine fo_goL mi_k68 fz68_0_6_7 [(3, .int (-2)), (0, .ref 49), (1, .ref 1), (2, .int x2)] [.int x2, .ref 1, .ref 49, .ref 49] rfl ?_
  refine ko_callI mi_k68.1 (pc := 7) (ls := [(3, .int (-2)), (0, .ref 49), (1, .ref 1), (2, .int x2)]) (st := [.int x2, .ref 1, .ref 49, .ref 49]) (h := ks i a q r) (i := (.invokevirtual 99, 3, 63, 0, 9, 0, 239)) (mi_k68.2 _ _ (by rfl)) (ft_invS mi_pq63 (by rfl)) (cy := mi_c63) mi_pq63 rfl (kc63_49_1_m hG.I hG.R x2) (by decide) ?_
  intro vg1 ig1 ag1 qg1 rg1 kg1 hg1
  have hGg1 := kG_call hG kg1 (by decide +kernel)
  have hJ2 := kG_i hGg1 3142 rfl (v := vg1) (kd_bd _)
  first | refine fo_go mi_k68 fz68_10_3_16 [(4, .int 0), (3, .int (-2)), (0, .ref 49), (1, .ref 1), (2, .int x2)] [] (ku ig1 3142 vg1) ag1 qg1 rg1 (by rfl) ?_ | refine fo_goL mi_k68 fz68_72_3_16 [(4, .int 0), (3, .int (-2)), (0, .ref 49), (1, .ref 1), (2, .int x2)] [] (by rfl) ?_ | refine ft_goL mi_k68 3 16 [(4, .int 0), (3, .int (-2)), (0, .ref 49), (1, .ref 1), (2, .int x2)] [] (by rfl) ?_ | refine ft_go mi_k68 3 16 [(4, .int 0), (3, .int (-2)), (0, .ref 49), (1, .ref 1), (2, .int x2)] [] (ku ig1 3142 vg1) ag1 qg1 rg1 (by rfl) ?_
  have lp3 : ∀ (nz : Nat) (i3 : Nat → Int32) (a3 : Nat → List Int32) (q3 : Nat → List Int64) (r3 : Nat → Nat) (l4_3 : Int32) (l3_3 : Int32), kG w68_49_1_L16_m (ku ig1 3142 vg1) ag1 qg1 rg1 i3 a3 q3 r3 → ((0 : Int) ≤ l4_3.toInt) ∧ (l4_3.toInt ≤ 20) → (((i3 3138).toInt - l4_3.toInt)).toNat < nz → ko 11 (mi_h68, mi_c68) P (16, [(4, .int l4_3), (3, .int l3_3), (0, .ref 49), (1, .ref 1), (2, .int x2)], [], (0, 0), ks i3 a3 q3 r3) := by
    intro nz
    induction nz with
    | zero =>
      intro _ _ _ _ _ _ _ _ hm
      exact absurd hm (Nat.not_lt_zero _)
    | succ nz ih3 =>
      intro i3 a3 q3 r3 l4_3 l3_3 hL3 p3_0 hm3
      have fi3_3138 : ((0 : Int) ≤ (i3 3138).toInt) ∧ ((i3 3138).toInt ≤ 20) := hL3.I.1 3138
      have s4 : (l4_3 + 1).toInt = l4_3.toInt + (1 : Int32).toInt := kd_add (oz12 p3_0.1 kn1) (oz448 p3_0.2 kn1)
      refine fo_goL mi_k68 fz68_16_5_24 [(4, .int l4_3), (3, .int l3_3), (0, .ref 49), (1, .ref 1), (2, .int x2)] [.int (i3 3138), .int (l4_3 + 1)] rfl ?_
      refine ft_ifS mi_k68 (decide ((i3 3138) ≤ (l4_3 + 1))) 79 27 [] rfl (fun c => ?_) (fun c => ?_)
      ·
        have c5 : (i3 3138).toInt ≤ (l4_3 + 1).toInt := kd_le c; clear c
        have hG6 := kG_call hJ2 hL3 (by decide +kernel)
        refine fo_goS mi_k68 fz68_79_1_80 [.int l3_3] rfl ?_
        exact ft_ret mi_k68 rfl (hP l3_3 _ _ _ _ hG6 trivial)
      ·
        have c7 : (l4_3 + 1).toInt < (i3 3138).toInt := kd_leF c; clear c
        refine fo_goS mi_k68 fz68_27_5_34 [.int (l4_3 + 1), .int l4_3, .ref 49] rfl ?_
        refine ko_callN mi_k68.1 (pc := 34) (ls := [(4, .int l4_3), (3, .int l3_3), (0, .ref 49), (1, .ref 1), (2, .int x2)]) (st := [.int (l4_3 + 1), .int l4_3, .ref 49]) (h := ks i3 a3 q3 r3) (i := (.invokevirtual 103, 3, 64, 0, 9, 0, 241)) (mi_k68.2 _ _ (by rfl)) (ft_invS mi_pq64 (by rfl)) (cy := mi_c64) mi_pq64 rfl (kc64_49_m hL3.I hL3.R l4_3 (l4_3 + 1) (oz1070_m c7 fi3_3138.2 p3_0.1 s4 kn1) (oz1067_m c7 fi3_3138.2 p3_0.1 s4 kn1)) (by decide) ?_
        intro ig8 ag8 qg8 rg8 kg8 hg8
        have hGg8 := kG_call hL3 kg8 (by decide +kernel)
        refine fo_goS mi_k68 fz68_37_3_40 [.int x2, .ref 1, .ref 49] rfl ?_
        refine ko_callI mi_k68.1 (pc := 40) (ls := [(4, .int l4_3), (3, .int l3_3), (0, .ref 49), (1, .ref 1), (2, .int x2)]) (st := [.int x2, .ref 1, .ref 49]) (h := ks ig8 ag8 qg8 rg8) (i := (.invokevirtual 99, 3, 63, 0, 9, 0, 239)) (mi_k68.2 _ _ (by rfl)) (ft_invS mi_pq63 (by rfl)) (cy := mi_c63) mi_pq63 rfl (kc63_49_1_m hGg8.I hGg8.R x2) (by decide) ?_
        intro vg9 ig9 ag9 qg9 rg9 kg9 hg9
        have hGg9 := kG_call hGg8 kg9 (by decide +kernel)
        refine fo_goL mi_k68 fz68_43_6_52 [(5, .int vg9), (4, .int l4_3), (3, .int l3_3), (0, .ref 49), (1, .ref 1), (2, .int x2)] [.int (l4_3 + 1), .int l4_3, .ref 49] rfl ?_
        refine ko_callN mi_k68.1 (pc := 52) (ls := [(5, .int vg9), (4, .int l4_3), (3, .int l3_3), (0, .ref 49), (1, .ref 1), (2, .int x2)]) (st := [.int (l4_3 + 1), .int l4_3, .ref 49]) (h := ks ig9 ag9 qg9 rg9) (i := (.invokevirtual 103, 3, 64, 0, 9, 0, 241)) (mi_k68.2 _ _ (by rfl)) (ft_invS mi_pq64 (by rfl)) (cy := mi_c64) mi_pq64 rfl (kc64_49_m hGg9.I hGg9.R l4_3 (l4_3 + 1) (oz1070_m c7 fi3_3138.2 p3_0.1 s4 kn1) (oz1067_m c7 fi3_3138.2 p3_0.1 s4 kn1)) (by decide) ?_
        intro ig10 ag10 qg10 rg10 kg10 hg10
        have hGg10 := kG_call hGg9 kg10 (by decide +kernel)
        refine fo_goS mi_k68 fz68_55_3_61 [.int (ig10 3142), .int vg9] rfl ?_
        refine ft_ifS mi_k68 (decide (vg9 ≤ (ig10 3142))) 73 64 [] rfl (fun c => ?_) (fun c => ?_)
        ·
          have c11 : vg9.toInt ≤ (ig10 3142).toInt := kd_le c; clear c
          first | refine fo_goL mi_k68 fz68_13_2_16 [(4, .int (l4_3 + 1)), (5, .int vg9), (3, .int l3_3), (0, .ref 49), (1, .ref 1), (2, .int x2)] [] (by rfl) ?_ | refine fo_goL mi_k68 fz68_73_2_16 [(4, .int (l4_3 + 1)), (5, .int vg9), (3, .int l3_3), (0, .ref 49), (1, .ref 1), (2, .int x2)] [] (by rfl) ?_
          refine ko_perm [(4, .int (l4_3 + 1)), (3, .int l3_3), (0, .ref 49), (1, .ref 1), (2, .int x2)] (List.forall_mem_cons.mpr ⟨(List.Mem.head _), (List.forall_mem_cons.mpr ⟨(List.Mem.tail _ (List.Mem.tail _ (List.Mem.head _))), (List.forall_mem_cons.mpr ⟨(List.Mem.tail _ (List.Mem.tail _ (List.Mem.tail _ (List.Mem.head _)))), (List.forall_mem_cons.mpr ⟨(List.Mem.tail _ (List.Mem.tail _ (List.Mem.tail _ (List.Mem.tail _ (List.Mem.head _))))), (List.forall_mem_cons.mpr ⟨(List.Mem.tail _ (List.Mem.tail _ (List.Mem.tail _ (List.Mem.tail _ (List.Mem.tail _ (List.Mem.head _)))))), (fun _ h => absurd h List.not_mem_nil)⟩)⟩)⟩)⟩)⟩) ?_
          have efig8_3138 : (ig8 3138).toInt = (i3 3138).toInt := kg8.ti 3138 rfl
          have efig9_3138 : (ig9 3138).toInt = (ig8 3138).toInt := kg9.ti 3138 rfl
          have efig10_3138 : (ig10 3138).toInt = (ig9 3138).toInt := kg10.ti 3138 rfl
          exact ih3 _ _ _ _ _ _ hGg10 (oz1071_m c7 fi3_3138.2 p3_0.1 s4 kn1) (kj_meas (oz933 efig10_3138 efig8_3138 efig9_3138 s4 kn1) (oz455 c7 s4 kn1) hm3)
        ·
          have c12 : (ig10 3142).toInt < vg9.toInt := kd_leF c; clear c
          have hJ13 := kG_i hGg10 3142 rfl (v := vg9) (kd_bd _)
          first | refine fo_go mi_k68 fz68_64_7_16 [(4, .int (l4_3 + 1)), (3, .int l4_3), (5, .int vg9), (0, .ref 49), (1, .ref 1), (2, .int x2)] [] (ku ig10 3142 vg9) ag10 qg10 rg10 (by rfl) ?_ | refine ft_go mi_k68 7 16 [(4, .int (l4_3 + 1)), (3, .int l4_3), (5, .int vg9), (0, .ref 49), (1, .ref 1), (2, .int x2)] [] (ku ig10 3142 vg9) ag10 qg10 rg10 (by rfl) ?_ | refine ft_goL mi_k68 7 16 [(4, .int (l4_3 + 1)), (3, .int l4_3), (5, .int vg9), (0, .ref 49), (1, .ref 1), (2, .int x2)] [] (by rfl) ?_
          refine ko_perm [(4, .int (l4_3 + 1)), (3, .int l4_3), (0, .ref 49), (1, .ref 1), (2, .int x2)] (List.forall_mem_cons.mpr ⟨(List.Mem.head _), (List.forall_mem_cons.mpr ⟨(List.Mem.tail _ (List.Mem.head _)), (List.forall_mem_cons.mpr ⟨(List.Mem.tail _ (List.Mem.tail _ (List.Mem.tail _ (List.Mem.head _)))), (List.forall_mem_cons.mpr ⟨(List.Mem.tail _ (List.Mem.tail _ (List.Mem.tail _ (List.Mem.tail _ (List.Mem.head _))))), (List.forall_mem_cons.mpr ⟨(List.Mem.tail _ (List.Mem.tail _ (List.Mem.tail _ (List.Mem.tail _ (List.Mem.tail _ (List.Mem.head _)))))), (fun _ h => absurd h List.not_mem_nil)⟩)⟩)⟩)⟩)⟩) ?_
          have efig8_3138 : (ig8 3138).toInt = (i3 3138).toInt := kg8.ti 3138 rfl
          have efig9_3138 : (ig9 3138).toInt = (ig8 3138).toInt := kg9.ti 3138 rfl
          have efig10_3138 : (ig10 3138).toInt = (ig9 3138).toInt := kg10.ti 3138 rfl
          exact ih3 _ _ _ _ _ _ hJ13 (oz1071_m c7 fi3_3138.2 p3_0.1 s4 kn1) (kj_meas (oz933 efig10_3138 efig8_3138 efig9_3138 s4 kn1) (oz455 c7 s4 kn1) hm3)
  exact lp3 _ _ _ _ _ _ _ (kG_self _ hJ2.I hJ2.R) (oz456 kn0) (Nat.lt_succ_self _)
def w93_0_m : kW := ([645, 3138, 3142, 3200, 3206, 3207, 3208, 3209, 3214, 3215, 3216, 3586, 3781, 6405], [13, 51, 52, 53, 54, 55, 57, 58, 62, 63, 65, 66, 67, 68, 69, 70, 71, 72, 73, 74, 103], [], [1])
set_option maxRecDepth 100000 in
theorem kc93_0_m {i : Nat → Int32} {a : Nat → List Int32} {q : Nat → List Int64} {r : Nat → Nat} (hI : kI i a q) (hr : kr r) (x1 : Int32) (x2 : Int32) (x3 : Int32) : km 13 93 [.ref 0, .int x1, .int x2, .int x3] (ks i a q r) (kVI w93_0_m i a q r (fun v i1 a1 q1 r1 => True)) := by
  have hG := kG_self w93_0_m hI hr
  refine km_ofI (q := (mi_h93, mi_c93)) rfl (by decide) (Nat.le_of_ble_eq_true rfl) ?_
  intro P hP
  refine fo_goL mi_k93 fz93_0_2_2 [(0, .ref 0), (1, .int x1), (2, .int x2), (3, .int x3)] [.int x2, .ref 0] rfl ?_
  refine ko_callPI mi_k93.1 (pc := 2) (ls := [(0, .ref 0), (1, .int x1), (2, .int x2), (3, .int x3)]) (st := [.int x2, .ref 0]) (h := ks i a q r) (i := (.invokevirtual 141, 3, 123, 0, 9, 0, 162)) (mi_k93.2 _ _ (by rfl)) (ft_invS mi_pq123 (by rfl)) (cy := mi_c123) mi_pq123 rfl (kc123_0 hG.I hG.R x2) (by decide) ?_
  intro vg1 hg1
  rcases hg1 with ⟨eg1, hg1⟩ | ⟨eg1, hg1⟩
  ·
    subst eg1
    refine fo_goS mi_k93 fz93_5_4_11 [.int 1, .int 0, .int x3] rfl ?_
    refine ko_callPI mi_k93.1 (pc := 11) (ls := [(0, .ref 0), (1, .int x1), (2, .int x2), (3, .int x3)]) (st := [.int 1, .int 0, .int x3]) (h := ks i a q r) (i := (.invokestatic 74, 3, 120, 0, 9, 0, 152)) (mi_k93.2 _ _ (by rfl)) (ft_invS mi_pq120 (by rfl)) (cy := mi_c120) mi_pq120 rfl (kc120 hG.I hG.R x3 0 1) (by decide) ?_
    intro vg3 hg3
    rcases hg3 with ⟨eg3, hg3⟩ | ⟨eg3, hg3⟩
    ·
      subst eg3
      refine fo_goS mi_k93 fz93_14_3_21 [.int x1, .ref 0] rfl ?_
      refine ko_callI mi_k93.1 (pc := 21) (ls := [(0, .ref 0), (1, .int x1), (2, .int x2), (3, .int x3)]) (st := [.int x1, .ref 0]) (h := ks i a q r) (i := (.invokevirtual 144, 3, 129, 0, 9, 0, 208)) (mi_k93.2 _ _ (by rfl)) (ft_invS mi_pq129 (by rfl)) (cy := mi_c129) mi_pq129 rfl (kc129_0 hG.I hG.R x1) (by decide) ?_
      intro vg5 ig5 ag5 qg5 rg5 kg5 hg5
      have hGg5 := kG_call hG kg5 (by decide +kernel)
      refine fo_goL mi_k93 fz93_24_2_28 [(4, .int vg5), (0, .ref 0), (1, .int x1), (2, .int x2), (3, .int x3)] [.int vg5] rfl ?_
      refine ft_ifS mi_k93 (decide (0 ≤ vg5)) 34 31 [] rfl (fun c => ?_) (fun c => ?_)
      ·
        have c7 : (0 : Int32).toInt ≤ vg5.toInt := kd_le c; clear c
        refine fo_goS mi_k93 fz93_34_5_43 [.int x2, .ref 1, .ref 49] rfl ?_
        refine ko_callI mi_k93.1 (pc := 43) (ls := [(4, .int vg5), (0, .ref 0), (1, .int x1), (2, .int x2), (3, .int x3)]) (st := [.int x2, .ref 1, .ref 49]) (h := ks ig5 ag5 qg5 rg5) (i := (.invokevirtual 185, 3, 68, 0, 9, 0, 245)) (mi_k93.2 _ _ (by rfl)) (ft_invS mi_pq68 (by rfl)) (cy := mi_c68) mi_pq68 rfl (kc68_49_1_m hGg5.I hGg5.R x2) (by decide) ?_
        intro vg8 ig8 ag8 qg8 rg8 kg8 hg8
        have hGg8 := kG_call hGg5 kg8 (by decide +kernel)
        refine fo_goL mi_k93 fz93_46_2_49 [(5, .int vg8), (4, .int vg5), (0, .ref 0), (1, .int x1), (2, .int x2), (3, .int x3)] [.int x3] rfl ?_
        refine ft_ifS mi_k93 (x3 != 0) 57 52 [] rfl (fun c => ?_) (fun c => ?_)
        ·
          have c9 : x3.toInt ≠ (0 : Int32).toInt := kd_ne c; clear c
          first | refine fo_goS mi_k93 fz93_49_3_64 [.int (ig8 3142)] (by rfl) ?_ | refine fo_goS mi_k93 fz93_57_3_64 [.int (ig8 3142)] (by rfl) ?_
          exact ft_ret mi_k93 rfl (hP (ig8 3142) _ _ _ _ hGg8 trivial)
        ·
          have c10 : x3.toInt = (0 : Int32).toInt := kd_neF c; clear c
          first | refine fo_goS mi_k93 fz93_52_2_64 [.int vg8] (by rfl) ?_ | refine fo_goS mi_k93 fz93_58_2_64 [.int vg8] (by rfl) ?_
          exact ft_ret mi_k93 rfl (hP vg8 _ _ _ _ hGg8 trivial)
      ·
        have c11 : vg5.toInt < (0 : Int32).toInt := kd_leF c; clear c
        refine fo_goS mi_k93 fz93_31_1_33 [.int vg5] rfl ?_
        exact ft_ret mi_k93 rfl (hP vg5 _ _ _ _ hGg5 trivial)
    ·
      subst eg3
      first | refine fo_goS mi_k93 fz93_5_2_18 [.int (-1)] (by rfl) ?_ | refine fo_goS mi_k93 fz93_14_2_18 [.int (-1)] (by rfl) ?_
      exact ft_ret mi_k93 rfl (hP (-1) _ _ _ _ hG trivial)
  ·
    subst eg1
    first | refine fo_goS mi_k93 fz93_5_2_18 [.int (-1)] (by rfl) ?_ | refine fo_goS mi_k93 fz93_14_2_18 [.int (-1)] (by rfl) ?_
    exact ft_ret mi_k93 rfl (hP (-1) _ _ _ _ hG trivial)
def w70_49_m : kW := ([], [74], [], [])
def w70_49_L91_m : kW := ([], [74], [], [])
set_option maxRecDepth 100000 in
theorem kc70_49_m {i : Nat → Int32} {a : Nat → List Int32} {q : Nat → List Int64} {r : Nat → Nat} (hI : kI i a q) (hr : kr r) (hp0 : (i 3138).toInt ≤ 5) : km 3 70 [.ref 49] (ks i a q r) (kVI w70_49_m i a q r (fun v i1 a1 q1 r1 => (v = 1 ∧ (True)) ∨ (v = 0 ∧ (True)))) := by
  have hG := kG_self w70_49_m hI hr
  refine km_ofI (q := (mi_h70, mi_c70)) rfl (by decide) (Nat.le_of_ble_eq_true rfl) ?_
  intro P hP
  have fi_3138 : ((0 : Int) ≤ (i 3138).toInt) ∧ ((i 3138).toInt ≤ 20) := hG.I.1 3138
  have s1 : ((i 3138) - 2).toInt = (i 3138).toInt - (2 : Int32).toInt := kd_sub (oz1072_m fi_3138.1 kn2) (oz1073_m fi_3138.2 kn2)
  first | refine fo_goL mi_k70 fz70_0_5_7 [(1, .int ((i 3138) - 2)), (0, .ref 49)] [] (by rfl) ?_ | refine ft_goL mi_k70 5 7 [(1, .int ((i 3138) - 2)), (0, .ref 49)] [] (by rfl) ?_ | refine ft_go mi_k70 5 7 [(1, .int ((i 3138) - 2)), (0, .ref 49)] [] i a q r (by rfl) ?_
  have lp2 : ∀ (nz : Nat) (l1_2 : Int32), l1_2.toInt ≤ ((i 3138).toInt - 2) → ((l1_2.toInt + 1)).toNat < nz → ko 3 (mi_h70, mi_c70) P (7, [(1, .int l1_2), (0, .ref 49)], [], (0, 0), ks i a q r) := by
    intro nz
    induction nz with
    | zero =>
      intro _ _ hm
      exact absurd hm (Nat.not_lt_zero _)
    | succ nz ih2 =>
      intro l1_2 p2_0 hm2
      refine fo_goL mi_k70 fz70_7_1_8 [(1, .int l1_2), (0, .ref 49)] [.int l1_2] rfl ?_
      refine ft_ifS mi_k70 (decide (l1_2 < 0)) 34 11 [] rfl (fun c => ?_) (fun c => ?_)
      ·
        have c3 : l1_2.toInt < (0 : Int32).toInt := kd_lt c; clear c
        refine fo_goS mi_k70 fz70_34_1_35 [.int l1_2] rfl ?_
        refine ft_ifS mi_k70 (decide (0 ≤ l1_2)) 40 38 [] rfl (fun c => ?_) (fun c => ?_)
        ·
          have c4 : (0 : Int32).toInt ≤ l1_2.toInt := kd_le c; clear c
          exact (oz1074_m c3 c4 kn0).elim
        ·
          have c5 : l1_2.toInt < (0 : Int32).toInt := kd_leF c; clear c
          refine fo_goS mi_k70 fz70_38_1_39 [.int 0] rfl ?_
          exact ft_ret mi_k70 rfl (hP 0 _ _ _ _ hG (Or.inr ⟨rfl, trivial⟩))
      ·
        have c6 : (0 : Int32).toInt ≤ l1_2.toInt := kd_ltF c; clear c
        refine fo_goS mi_k70 fz70_11_3_16 [.int l1_2, .ref 74] rfl ?_
        refine ko_iald3 mi_k70.1 (n := 20) (c := 20) (ax := (0, 0, 0, 0, 0)) (mi_k70.2 _ _ (by rfl)) (by rfl) (ksG74 _ _ _ _) (hG.I.2.1 74) rfl (oz389 c6 kn0) (oz1075_m fi_3138.2 p2_0) ?_
        have s7 : (l1_2 + 1).toInt = l1_2.toInt + (1 : Int32).toInt := kd_add (oz950 c6 kn0 kn1) (oz1076_m fi_3138.2 p2_0 kn1)
        refine fo_goS mi_k70 fz70_17_5_24 [.int (l1_2 + 1), .ref 74, .int ((a 74).getD l1_2.toNatClampNeg 0)] rfl ?_
        refine ko_iald3 mi_k70.1 (n := 20) (c := 20) (ax := (0, 0, 0, 0, 0)) (mi_k70.2 _ _ (by rfl)) (by rfl) (ksG74 _ _ _ _) (hG.I.2.1 74) rfl (oz952 c6 s7 kn0 kn1) (oz1077_m fi_3138.2 p2_0 s7 kn1) ?_
        refine ft_ifS mi_k70 (decide (((a 74).getD l1_2.toNatClampNeg 0) < ((a 74).getD (l1_2 + 1).toNatClampNeg 0))) 34 28 [] rfl (fun c => ?_) (fun c => ?_)
        ·
          have c8 : ((a 74).getD l1_2.toNatClampNeg 0).toInt < ((a 74).getD (l1_2 + 1).toNatClampNeg 0).toInt := kd_lt c; clear c
          refine fo_goS mi_k70 fz70_34_1_35 [.int l1_2] rfl ?_
          refine ft_ifS mi_k70 (decide (0 ≤ l1_2)) 40 38 [] rfl (fun c => ?_) (fun c => ?_)
          ·
            have c9 : (0 : Int32).toInt ≤ l1_2.toInt := kd_le c; clear c
            have s10 : ((i 3138) - 1).toInt = (i 3138).toInt - (1 : Int32).toInt := kd_sub (oz47 fi_3138.1 kn1) (oz1078_m fi_3138.2 kn1)
            first | refine fo_goL mi_k70 fz70_40_5_47 [(2, .int ((i 3138) - 1)), (1, .int l1_2), (0, .ref 49)] [] (by rfl) ?_ | refine ft_goL mi_k70 5 47 [(2, .int ((i 3138) - 1)), (1, .int l1_2), (0, .ref 49)] [] (by rfl) ?_ | refine ft_go mi_k70 5 47 [(2, .int ((i 3138) - 1)), (1, .int l1_2), (0, .ref 49)] [] i a q r (by rfl) ?_
            have lp11 : ∀ (nz : Nat) (l2_11 : Int32), ((0 : Int) ≤ l1_2.toInt) ∧ (l1_2.toInt ≤ l2_11.toInt) → l2_11.toInt ≤ ((i 3138).toInt - 1) → ((l2_11.toInt - l1_2.toInt)).toNat < nz → ko 3 (mi_h70, mi_c70) P (47, [(2, .int l2_11), (1, .int l1_2), (0, .ref 49)], [], (0, 0), ks i a q r) := by
              intro nz
              induction nz with
              | zero =>
                intro _ _ _ hm
                exact absurd hm (Nat.not_lt_zero _)
              | succ nz ih11 =>
                intro l2_11 p11_0 p11_1 hm11
                refine fo_goL mi_k70 fz70_47_2_49 [(2, .int l2_11), (1, .int l1_2), (0, .ref 49)] [.int l1_2, .int l2_11] rfl ?_
                refine ft_ifS mi_k70 (decide (l2_11 ≤ l1_2)) 73 52 [] rfl (fun c => ?_) (fun c => ?_)
                ·
                  have c12 : l2_11.toInt ≤ l1_2.toInt := kd_le c; clear c
                  refine fo_goS mi_k70 fz70_73_3_76 [.int l2_11, .int l1_2, .ref 49] rfl ?_
                  refine ko_callN mi_k70.1 (pc := 76) (ls := [(2, .int l2_11), (1, .int l1_2), (0, .ref 49)]) (st := [.int l2_11, .int l1_2, .ref 49]) (h := ks i a q r) (i := (.invokevirtual 103, 3, 64, 0, 9, 0, 241)) (mi_k70.2 _ _ (by rfl)) (ft_invS mi_pq64 (by rfl)) (cy := mi_c64) mi_pq64 rfl (kc64_49_m hG.I hG.R l1_2 l2_11 (oz1079_m c6 fi_3138.2 p2_0 kn0) (oz1080_m c12 c6 fi_3138.2 p11_0.2 p2_0 kn0)) (by decide) ?_
                  intro ig13 ag13 qg13 rg13 kg13 hg13
                  have hGg13 := kG_call hG kg13 (by decide +kernel)
                  have fig13_3138 : ((0 : Int) ≤ (ig13 3138).toInt) ∧ ((ig13 3138).toInt ≤ 20) := hGg13.I.1 3138
                  have s14 : ((ig13 3138) - 1).toInt = (ig13 3138).toInt - (1 : Int32).toInt := kd_sub (oz47 fig13_3138.1 kn1) (oz1078_m fig13_3138.2 kn1)
                  first | refine fo_goL mi_k70 fz70_79_9_91 [(4, .int (l1_2 + 1)), (3, .int ((ig13 3138) - 1)), (2, .int l2_11), (1, .int l1_2), (0, .ref 49)] [] (by rfl) ?_ | refine ft_goL mi_k70 9 91 [(4, .int (l1_2 + 1)), (3, .int ((ig13 3138) - 1)), (2, .int l2_11), (1, .int l1_2), (0, .ref 49)] [] (by rfl) ?_ | refine ft_go mi_k70 9 91 [(4, .int (l1_2 + 1)), (3, .int ((ig13 3138) - 1)), (2, .int l2_11), (1, .int l1_2), (0, .ref 49)] [] ig13 ag13 qg13 rg13 (by rfl) ?_
                  have lp15 : ∀ (nz : Nat) (i15 : Nat → Int32) (a15 : Nat → List Int32) (q15 : Nat → List Int64) (r15 : Nat → Nat) (l4_15 : Int32) (l3_15 : Int32), kG w70_49_L91_m ig13 ag13 qg13 rg13 i15 a15 q15 r15 → (1 : Int) ≤ l4_15.toInt → l3_15.toInt ≤ ((i15 3138).toInt - 1) → ((l3_15.toInt - l4_15.toInt)).toNat < nz → ko 3 (mi_h70, mi_c70) P (91, [(4, .int l4_15), (3, .int l3_15), (2, .int l2_11), (1, .int l1_2), (0, .ref 49)], [], (0, 0), ks i15 a15 q15 r15) := by
                    intro nz
                    induction nz with
                    | zero =>
                      intro _ _ _ _ _ _ _ _ _ hm
                      exact absurd hm (Nat.not_lt_zero _)
                    | succ nz ih15 =>
                      intro i15 a15 q15 r15 l4_15 l3_15 hL15 p15_0 p15_1 hm15
                      have fi15_3138 : ((0 : Int) ≤ (i15 3138).toInt) ∧ ((i15 3138).toInt ≤ 20) := hL15.I.1 3138
                      refine fo_goL mi_k70 fz70_91_2_94 [(4, .int l4_15), (3, .int l3_15), (2, .int l2_11), (1, .int l1_2), (0, .ref 49)] [.int l3_15, .int l4_15] rfl ?_
                      refine ft_ifS mi_k70 (decide (l3_15 ≤ l4_15)) 113 97 [] rfl (fun c => ?_) (fun c => ?_)
                      ·
                        have c16 : l3_15.toInt ≤ l4_15.toInt := kd_le c; clear c
                        have hG17 := kG_call hGg13 hL15 (by decide +kernel)
                        refine fo_goS mi_k70 fz70_113_1_114 [.int 1] rfl ?_
                        exact ft_ret mi_k70 rfl (hP 1 _ _ _ _ hG17 (Or.inl ⟨rfl, trivial⟩))
                      ·
                        have c18 : l4_15.toInt < l3_15.toInt := kd_leF c; clear c
                        refine fo_goS mi_k70 fz70_97_3_101 [.int l3_15, .int l4_15, .ref 49] rfl ?_
                        refine ko_callN mi_k70.1 (pc := 101) (ls := [(4, .int l4_15), (3, .int l3_15), (2, .int l2_11), (1, .int l1_2), (0, .ref 49)]) (st := [.int l3_15, .int l4_15, .ref 49]) (h := ks i15 a15 q15 r15) (i := (.invokevirtual 103, 3, 64, 0, 9, 0, 241)) (mi_k70.2 _ _ (by rfl)) (ft_invS mi_pq64 (by rfl)) (cy := mi_c64) mi_pq64 rfl (kc64_49_m hL15.I hL15.R l4_15 l3_15 (oz1081_m c18 fi15_3138.2 p15_0 p15_1) (oz1082_m c18 fi15_3138.2 p15_0 p15_1)) (by decide) ?_
                        intro ig19 ag19 qg19 rg19 kg19 hg19
                        have hGg19 := kG_call hL15 kg19 (by decide +kernel)
                        have s20 : (l3_15 + (-1)).toInt = l3_15.toInt + ((-1) : Int32).toInt := kd_add (oz1083_m c18 p15_0 knm1) (oz1084_m fi15_3138.2 p15_1 knm1)
                        have s21 : (l4_15 + 1).toInt = l4_15.toInt + (1 : Int32).toInt := kd_add (oz491 p15_0 kn1) (oz1085_m c18 fi15_3138.2 p15_1 kn1)
                        first | refine fo_goL mi_k70 fz70_87_3_91 [(4, .int (l4_15 + 1)), (3, .int (l3_15 + (-1))), (2, .int l2_11), (1, .int l1_2), (0, .ref 49)] [] (by rfl) ?_ | refine fo_goL mi_k70 fz70_104_3_91 [(4, .int (l4_15 + 1)), (3, .int (l3_15 + (-1))), (2, .int l2_11), (1, .int l1_2), (0, .ref 49)] [] (by rfl) ?_
                        have efig19_3138 : (ig19 3138).toInt = (i15 3138).toInt := kg19.ti 3138 rfl
                        exact ih15 _ _ _ _ _ _ hGg19 (oz492 p15_0 s21 kn1) (oz1086_m efig19_3138 p15_1 s20 knm1) (kj_meas (oz1087_m s20 s21 knm1 kn1) (oz45 c18) hm15)
                  exact lp15 _ _ _ _ _ _ _ (kG_self _ hGg13.I hGg13.R) (oz1088_m c9 s7 kn0 kn1) (oz643 s14 kn1) (Nat.lt_succ_self _)
                ·
                  have c22 : l1_2.toInt < l2_11.toInt := kd_leF c; clear c
                  refine fo_goS mi_k70 fz70_52_3_57 [.int l2_11, .ref 74] rfl ?_
                  refine ko_iald3 mi_k70.1 (n := 20) (c := 20) (ax := (0, 0, 0, 0, 0)) (mi_k70.2 _ _ (by rfl)) (by rfl) (ksG74 _ _ _ _) (hG.I.2.1 74) rfl (oz1089_m c22 c6 kn0) (oz1090_m fi_3138.2 p11_1) ?_
                  refine fo_goS mi_k70 fz70_58_3_63 [.int l1_2, .ref 74, .int ((a 74).getD l2_11.toNatClampNeg 0)] rfl ?_
                  refine ko_iald3 mi_k70.1 (n := 20) (c := 20) (ax := (0, 0, 0, 0, 0)) (mi_k70.2 _ _ (by rfl)) (by rfl) (ksG74 _ _ _ _) (hG.I.2.1 74) rfl (oz389 c6 kn0) (oz1075_m fi_3138.2 p2_0) ?_
                  refine ft_ifS mi_k70 (decide (((a 74).getD l1_2.toNatClampNeg 0) < ((a 74).getD l2_11.toNatClampNeg 0))) 73 67 [] rfl (fun c => ?_) (fun c => ?_)
                  ·
                    have c23 : ((a 74).getD l1_2.toNatClampNeg 0).toInt < ((a 74).getD l2_11.toNatClampNeg 0).toInt := kd_lt c; clear c
                    refine fo_goS mi_k70 fz70_73_3_76 [.int l2_11, .int l1_2, .ref 49] rfl ?_
                    refine ko_callN mi_k70.1 (pc := 76) (ls := [(2, .int l2_11), (1, .int l1_2), (0, .ref 49)]) (st := [.int l2_11, .int l1_2, .ref 49]) (h := ks i a q r) (i := (.invokevirtual 103, 3, 64, 0, 9, 0, 241)) (mi_k70.2 _ _ (by rfl)) (ft_invS mi_pq64 (by rfl)) (cy := mi_c64) mi_pq64 rfl (kc64_49_m hG.I hG.R l1_2 l2_11 (oz1079_m c6 fi_3138.2 p2_0 kn0) (oz1091_m c22 c6 fi_3138.2 p11_1 kn0)) (by decide) ?_
                    intro ig24 ag24 qg24 rg24 kg24 hg24
                    have hGg24 := kG_call hG kg24 (by decide +kernel)
                    have fig24_3138 : ((0 : Int) ≤ (ig24 3138).toInt) ∧ ((ig24 3138).toInt ≤ 20) := hGg24.I.1 3138
                    have s25 : ((ig24 3138) - 1).toInt = (ig24 3138).toInt - (1 : Int32).toInt := kd_sub (oz47 fig24_3138.1 kn1) (oz1078_m fig24_3138.2 kn1)
                    first | refine fo_goL mi_k70 fz70_79_9_91 [(4, .int (l1_2 + 1)), (3, .int ((ig24 3138) - 1)), (2, .int l2_11), (1, .int l1_2), (0, .ref 49)] [] (by rfl) ?_ | refine ft_goL mi_k70 9 91 [(4, .int (l1_2 + 1)), (3, .int ((ig24 3138) - 1)), (2, .int l2_11), (1, .int l1_2), (0, .ref 49)] [] (by rfl) ?_ | refine ft_go mi_k70 9 91 [(4, .int (l1_2 + 1)), (3, .int ((ig24 3138) - 1)), (2, .int l2_11), (1, .int l1_2), (0, .ref 49)] [] ig24 ag24 qg24 rg24 (by rfl) ?_
                    have lp26 : ∀ (nz : Nat) (i26 : Nat → Int32) (a26 : Nat → List Int32) (q26 : Nat → List Int64) (r26 : Nat → Nat) (l4_26 : Int32) (l3_26 : Int32), kG w70_49_L91_m ig24 ag24 qg24 rg24 i26 a26 q26 r26 → (1 : Int) ≤ l4_26.toInt → l3_26.toInt ≤ ((i26 3138).toInt - 1) → ((l3_26.toInt - l4_26.toInt)).toNat < nz → ko 3 (mi_h70, mi_c70) P (91, [(4, .int l4_26), (3, .int l3_26), (2, .int l2_11), (1, .int l1_2), (0, .ref 49)], [], (0, 0), ks i26 a26 q26 r26) := by
                      intro nz
                      induction nz with
                      | zero =>
                        intro _ _ _ _ _ _ _ _ _ hm
                        exact absurd hm (Nat.not_lt_zero _)
                      | succ nz ih26 =>
                        intro i26 a26 q26 r26 l4_26 l3_26 hL26 p26_0 p26_1 hm26
                        have fi26_3138 : ((0 : Int) ≤ (i26 3138).toInt) ∧ ((i26 3138).toInt ≤ 20) := hL26.I.1 3138
                        refine fo_goL mi_k70 fz70_91_2_94 [(4, .int l4_26), (3, .int l3_26), (2, .int l2_11), (1, .int l1_2), (0, .ref 49)] [.int l3_26, .int l4_26] rfl ?_
                        refine ft_ifS mi_k70 (decide (l3_26 ≤ l4_26)) 113 97 [] rfl (fun c => ?_) (fun c => ?_)
                        ·
                          have c27 : l3_26.toInt ≤ l4_26.toInt := kd_le c; clear c
                          have hG28 := kG_call hGg24 hL26 (by decide +kernel)
                          refine fo_goS mi_k70 fz70_113_1_114 [.int 1] rfl ?_
                          exact ft_ret mi_k70 rfl (hP 1 _ _ _ _ hG28 (Or.inl ⟨rfl, trivial⟩))
                        ·
                          have c29 : l4_26.toInt < l3_26.toInt := kd_leF c; clear c
                          refine fo_goS mi_k70 fz70_97_3_101 [.int l3_26, .int l4_26, .ref 49] rfl ?_
                          refine ko_callN mi_k70.1 (pc := 101) (ls := [(4, .int l4_26), (3, .int l3_26), (2, .int l2_11), (1, .int l1_2), (0, .ref 49)]) (st := [.int l3_26, .int l4_26, .ref 49]) (h := ks i26 a26 q26 r26) (i := (.invokevirtual 103, 3, 64, 0, 9, 0, 241)) (mi_k70.2 _ _ (by rfl)) (ft_invS mi_pq64 (by rfl)) (cy := mi_c64) mi_pq64 rfl (kc64_49_m hL26.I hL26.R l4_26 l3_26 (oz1081_m c29 fi26_3138.2 p26_0 p26_1) (oz1082_m c29 fi26_3138.2 p26_0 p26_1)) (by decide) ?_
                          intro ig30 ag30 qg30 rg30 kg30 hg30
                          have hGg30 := kG_call hL26 kg30 (by decide +kernel)
                          have s31 : (l3_26 + (-1)).toInt = l3_26.toInt + ((-1) : Int32).toInt := kd_add (oz1083_m c29 p26_0 knm1) (oz1084_m fi26_3138.2 p26_1 knm1)
                          have s32 : (l4_26 + 1).toInt = l4_26.toInt + (1 : Int32).toInt := kd_add (oz491 p26_0 kn1) (oz1085_m c29 fi26_3138.2 p26_1 kn1)
                          first | refine fo_goL mi_k70 fz70_87_3_91 [(4, .int (l4_26 + 1)), (3, .int (l3_26 + (-1))), (2, .int l2_11), (1, .int l1_2), (0, .ref 49)] [] (by rfl) ?_ | refine fo_goL mi_k70 fz70_104_3_91 [(4, .int (l4_26 + 1)), (3, .int (l3_26 + (-1))), (2, .int l2_11), (1, .int l1_2), (0, .ref 49)] [] (by rfl) ?_
                          have efig30_3138 : (ig30 3138).toInt = (i26 3138).toInt := kg30.ti 3138 rfl
                          exact ih26 _ _ _ _ _ _ hGg30 (oz492 p26_0 s32 kn1) (oz1086_m efig30_3138 p26_1 s31 knm1) (kj_meas (oz1087_m s31 s32 knm1 kn1) (oz45 c29) hm26)
                    exact lp26 _ _ _ _ _ _ _ (kG_self _ hGg24.I hGg24.R) (oz1088_m c9 s7 kn0 kn1) (oz643 s25 kn1) (Nat.lt_succ_self _)
                  ·
                    have c33 : ((a 74).getD l2_11.toNatClampNeg 0).toInt ≤ ((a 74).getD l1_2.toNatClampNeg 0).toInt := kd_ltF c; clear c
                    have s34 : (l2_11 + (-1)).toInt = l2_11.toInt + ((-1) : Int32).toInt := kd_add (oz1092_m c22 c6 kn0 knm1) (oz1084_m fi_3138.2 p11_1 knm1)
                    first | refine fo_goL mi_k70 fz70_45_2_47 [(2, .int (l2_11 + (-1))), (1, .int l1_2), (0, .ref 49)] [] (by rfl) ?_ | refine fo_goL mi_k70 fz70_67_2_47 [(2, .int (l2_11 + (-1))), (1, .int l1_2), (0, .ref 49)] [] (by rfl) ?_
                    exact ih11 _ (oz1093_m c22 c6 s34 kn0 knm1) (oz641 p11_1 s34 knm1) (kj_meas (oz420 s34 knm1) (oz45 c22) hm11)
            exact lp11 _ _ (oz1094_m c6 p2_0 s10 kn0 kn1) (oz643 s10 kn1) (Nat.lt_succ_self _)
          ·
            have c35 : l1_2.toInt < (0 : Int32).toInt := kd_leF c; clear c
            exact (oz1074_m c35 c6 kn0).elim
        ·
          have c36 : ((a 74).getD (l1_2 + 1).toNatClampNeg 0).toInt ≤ ((a 74).getD l1_2.toNatClampNeg 0).toInt := kd_ltF c; clear c
          have s37 : (l1_2 + (-1)).toInt = l1_2.toInt + ((-1) : Int32).toInt := kd_add (oz1095_m c6 kn0 knm1) (oz1096_m fi_3138.2 p2_0 knm1)
          first | refine fo_goL mi_k70 fz70_5_2_7 [(1, .int (l1_2 + (-1))), (0, .ref 49)] [] (by rfl) ?_ | refine fo_goL mi_k70 fz70_28_2_7 [(1, .int (l1_2 + (-1))), (0, .ref 49)] [] (by rfl) ?_
          exact ih2 _ (oz1097_m p2_0 s37 knm1) (kj_meas (oz519 s37 knm1) (oz520 c6 kn0) hm2)
  exact lp2 _ _ (oz1098_m s1 kn2) (Nat.lt_succ_self _)
def w69_49_1_m : kW := ([645, 3138, 3142, 3200, 3206, 3207, 3208, 3209, 3214, 3215, 3216, 3586, 3781, 6405], [13, 51, 52, 53, 54, 55, 57, 58, 62, 63, 65, 66, 67, 68, 69, 70, 71, 72, 73, 74, 78, 103], [], [1])
def w69_49_1_L8_m : kW := ([3138], [74], [], [])
def w69_49_1_L71_m : kW := ([645, 3142, 3200, 3206, 3207, 3208, 3209, 3214, 3215, 3216, 3586, 3781, 6405], [13, 51, 52, 53, 54, 55, 57, 58, 62, 63, 65, 66, 67, 68, 69, 70, 71, 72, 73, 74, 78, 103], [], [1])
set_option maxRecDepth 100000 in
theorem kc69_49_1_m {i : Nat → Int32} {a : Nat → List Int32} {q : Nat → List Int64} {r : Nat → Nat} (hI : kI i a q) (hr : kr r) (x2 : Int32) (x3 : Int32) : km 11 69 [.ref 49, .ref 1, .int x2, .int x3] (ks i a q r) (kVN w69_49_1_m i a q r (fun i1 a1 q1 r1 => True)) := by
  have hG := kG_self w69_49_1_m hI hr
  refine km_ofN (q := (mi_h69, mi_c69)) rfl (by decide) (Nat.le_of_ble_eq_true rfl) ?_
  intro P hP
  have hJ1 := kG_i hG 3138 rfl (v := 0) ⟨(oz46 kn0), (oz220 kn0)⟩
  first | refine fo_go mi_k69 fz69_0_5_8 [(4, .int 0), (0, .ref 49), (1, .ref 1), (2, .int x2), (3, .int x3)] [] (ku i 3138 0) a q r (by rfl) ?_ | refine fo_go mi_k69 fz69_49_5_8 [(4, .int 0), (0, .ref 49), (1, .ref 1), (2, .int x2), (3, .int x3)] [] (ku i 3138 0) a q r (by rfl) ?_ | refine ft_goL mi_k69 5 8 [(4, .int 0), (0, .ref 49), (1, .ref 1), (2, .int x2), (3, .int x3)] [] (by rfl) ?_ | refine ft_go mi_k69 5 8 [(4, .int 0), (0, .ref 49), (1, .ref 1), (2, .int x2), (3, .int x3)] [] (ku i 3138 0) a q r (by rfl) ?_
  have lp2 : ∀ (nz : Nat) (i2 : Nat → Int32) (a2 : Nat → List Int32) (q2 : Nat → List Int64) (r2 : Nat → Nat) (l4_2 : Int32), kG w69_49_1_L8_m (ku i 3138 0) a q r i2 a2 q2 r2 → (0 : Int) ≤ l4_2.toInt → (i2 3138).toInt ≤ 5 → ((8 - l4_2.toInt)).toNat < nz → ko 11 (mi_h69, mi_c69) P (8, [(4, .int l4_2), (0, .ref 49), (1, .ref 1), (2, .int x2), (3, .int x3)], [], (0, 0), ks i2 a2 q2 r2) := by
    intro nz
    induction nz with
    | zero =>
      intro _ _ _ _ _ _ _ _ hm
      exact absurd hm (Nat.not_lt_zero _)
    | succ nz ih2 =>
      intro i2 a2 q2 r2 l4_2 hL2 p2_0 p2_1 hm2
      have fi2_3138 : ((0 : Int) ≤ (i2 3138).toInt) ∧ ((i2 3138).toInt ≤ 20) := hL2.I.1 3138
      refine fo_goL mi_k69 fz69_8_2_12 [(4, .int l4_2), (0, .ref 49), (1, .ref 1), (2, .int x2), (3, .int x3)] [.int 8, .int l4_2] rfl ?_
      refine ft_ifS mi_k69 (decide (8 ≤ l4_2)) 60 15 [] rfl (fun c => ?_) (fun c => ?_)
      ·
        have c3 : (8 : Int32).toInt ≤ l4_2.toInt := kd_le c; clear c
        have hG4 := kG_call hJ1 hL2 (by decide +kernel)
        have hJ5 := kG_i hG4 3142 rfl (v := (-1)) (kd_bd _)
        first | refine fo_go mi_k69 fz69_60_7_71 [(5, .int 0), (4, .int 1), (0, .ref 49), (1, .ref 1), (2, .int x2), (3, .int x3)] [] (ku i2 3142 (-1)) a2 q2 r2 (by rfl) ?_ | refine ft_goL mi_k69 7 71 [(5, .int 0), (4, .int 1), (0, .ref 49), (1, .ref 1), (2, .int x2), (3, .int x3)] [] (by rfl) ?_ | refine ft_go mi_k69 7 71 [(5, .int 0), (4, .int 1), (0, .ref 49), (1, .ref 1), (2, .int x2), (3, .int x3)] [] (ku i2 3142 (-1)) a2 q2 r2 (by rfl) ?_
        have lp6 : ∀ (nz : Nat) (i6 : Nat → Int32) (a6 : Nat → List Int32) (q6 : Nat → List Int64) (r6 : Nat → Nat) (l5_6 : Int32) (l4_6 : Int32), kG w69_49_1_L71_m (ku i2 3142 (-1)) a2 q2 r2 i6 a6 q6 r6 → (0 : Int) ≤ l5_6.toInt → (i6 3138).toInt ≤ 5 → ((120 - l5_6.toInt)).toNat < nz → ko 11 (mi_h69, mi_c69) P (71, [(5, .int l5_6), (4, .int l4_6), (0, .ref 49), (1, .ref 1), (2, .int x2), (3, .int x3)], [], (0, 0), ks i6 a6 q6 r6) := by
          intro nz
          induction nz with
          | zero =>
            intro _ _ _ _ _ _ _ _ _ hm
            exact absurd hm (Nat.not_lt_zero _)
          | succ nz ih6 =>
            intro i6 a6 q6 r6 l5_6 l4_6 hL6 p6_0 p6_1 hm6
            refine fo_goL mi_k69 fz69_71_2_75 [(5, .int l5_6), (4, .int l4_6), (0, .ref 49), (1, .ref 1), (2, .int x2), (3, .int x3)] [.int 120, .int l5_6] rfl ?_
            refine ft_ifS mi_k69 (decide (120 ≤ l5_6)) 135 78 [] rfl (fun c => ?_) (fun c => ?_)
            ·
              have c7 : (120 : Int32).toInt ≤ l5_6.toInt := kd_le c; clear c
              have hG8 := kG_call hJ5 hL6 (by decide +kernel)
              exact ft_ret mi_k69 rfl (hP  _ _ _ _ hG8 trivial)
            ·
              have c9 : l5_6.toInt < (120 : Int32).toInt := kd_leF c; clear c
              refine fo_goS mi_k69 fz69_78_1_80 [.int l4_6] rfl ?_
              refine ft_ifS mi_k69 (l4_6 == 0) 135 83 [] rfl (fun c => ?_) (fun c => ?_)
              ·
                have c10 : l4_6.toInt = (0 : Int32).toInt := kd_eq c; clear c
                have hG11 := kG_call hJ5 hL6 (by decide +kernel)
                exact ft_ret mi_k69 rfl (hP  _ _ _ _ hG11 trivial)
              ·
                have c12 : l4_6.toInt ≠ (0 : Int32).toInt := kd_eqF c; clear c
                refine fo_goS mi_k69 fz69_83_3_86 [.int x3, .ref 1, .ref 49] rfl ?_
                refine ko_callI mi_k69.1 (pc := 86) (ls := [(5, .int l5_6), (4, .int l4_6), (0, .ref 49), (1, .ref 1), (2, .int x2), (3, .int x3)]) (st := [.int x3, .ref 1, .ref 49]) (h := ks i6 a6 q6 r6) (i := (.invokevirtual 99, 3, 63, 0, 9, 0, 239)) (mi_k69.2 _ _ (by rfl)) (ft_invS mi_pq63 (by rfl)) (cy := mi_c63) mi_pq63 rfl (kc63_49_1_m hL6.I hL6.R x3) (by decide) ?_
                intro vg13 ig13 ag13 qg13 rg13 kg13 hg13
                have hGg13 := kG_call hL6 kg13 (by decide +kernel)
                refine fo_goL mi_k69 fz69_89_4_97 [(6, .int vg13), (5, .int l5_6), (4, .int l4_6), (0, .ref 49), (1, .ref 1), (2, .int x2), (3, .int x3)] [.int (ig13 3142), .int vg13] rfl ?_
                refine ft_ifS mi_k69 (decide (vg13 ≤ (ig13 3142))) 123 100 [] rfl (fun c => ?_) (fun c => ?_)
                ·
                  have c14 : vg13.toInt ≤ (ig13 3142).toInt := kd_le c; clear c
                  refine fo_goS mi_k69 fz69_123_1_124 [.ref 49] rfl ?_
                  have efig13_3138 : (ig13 3138).toInt = (i6 3138).toInt := kg13.ti 3138 rfl
                  refine ko_callI mi_k69.1 (pc := 124) (ls := [(6, .int vg13), (5, .int l5_6), (4, .int l4_6), (0, .ref 49), (1, .ref 1), (2, .int x2), (3, .int x3)]) (st := [.ref 49]) (h := ks ig13 ag13 qg13 rg13) (i := (.invokevirtual 109, 3, 70, 0, 9, 0, 252)) (mi_k69.2 _ _ (by rfl)) (ft_invS mi_pq70 (by rfl)) (cy := mi_c70) mi_pq70 rfl (kc70_49_m hGg13.I hGg13.R (oz1099_m efig13_3138 p6_1)) (by decide) ?_
                  intro vg15 ig15 ag15 qg15 rg15 kg15 hg15
                  have hGg15 := kG_call hGg13 kg15 (by decide +kernel)
                  rcases hg15 with ⟨eg15, hg15⟩ | ⟨eg15, hg15⟩
                  ·
                    subst eg15
                    have s16 : (l5_6 + 1).toInt = l5_6.toInt + (1 : Int32).toInt := kd_add (oz12 p6_0 kn1) (oz1100_m c9 kn120 kn1)
                    first | refine fo_goL mi_k69 fz69_66_3_71 [(5, .int (l5_6 + 1)), (4, .int 1), (6, .int vg13), (0, .ref 49), (1, .ref 1), (2, .int x2), (3, .int x3)] [] (by rfl) ?_ | refine fo_goL mi_k69 fz69_127_3_71 [(5, .int (l5_6 + 1)), (4, .int 1), (6, .int vg13), (0, .ref 49), (1, .ref 1), (2, .int x2), (3, .int x3)] [] (by rfl) ?_
                    refine ko_perm [(5, .int (l5_6 + 1)), (4, .int 1), (0, .ref 49), (1, .ref 1), (2, .int x2), (3, .int x3)] (List.forall_mem_cons.mpr ⟨(List.Mem.head _), (List.forall_mem_cons.mpr ⟨(List.Mem.tail _ (List.Mem.head _)), (List.forall_mem_cons.mpr ⟨(List.Mem.tail _ (List.Mem.tail _ (List.Mem.tail _ (List.Mem.head _)))), (List.forall_mem_cons.mpr ⟨(List.Mem.tail _ (List.Mem.tail _ (List.Mem.tail _ (List.Mem.tail _ (List.Mem.head _))))), (List.forall_mem_cons.mpr ⟨(List.Mem.tail _ (List.Mem.tail _ (List.Mem.tail _ (List.Mem.tail _ (List.Mem.tail _ (List.Mem.head _)))))), (List.forall_mem_cons.mpr ⟨(List.Mem.tail _ (List.Mem.tail _ (List.Mem.tail _ (List.Mem.tail _ (List.Mem.tail _ (List.Mem.tail _ (List.Mem.head _))))))), (fun _ h => absurd h List.not_mem_nil)⟩)⟩)⟩)⟩)⟩)⟩) ?_
                    have efig15_3138 : (ig15 3138).toInt = (ig13 3138).toInt := kg15.ti 3138 rfl
                    exact ih6 _ _ _ _ _ _ hGg15 (oz14 p6_0 s16 kn1) (oz1101_m efig13_3138 efig15_3138 p6_1) (kj_meas (oz1102_m s16 kn1) (oz1103_m c9 kn120) hm6)
                  ·
                    subst eg15
                    have s17 : (l5_6 + 1).toInt = l5_6.toInt + (1 : Int32).toInt := kd_add (oz12 p6_0 kn1) (oz1100_m c9 kn120 kn1)
                    first | refine fo_goL mi_k69 fz69_66_3_71 [(5, .int (l5_6 + 1)), (4, .int 0), (6, .int vg13), (0, .ref 49), (1, .ref 1), (2, .int x2), (3, .int x3)] [] (by rfl) ?_ | refine fo_goL mi_k69 fz69_127_3_71 [(5, .int (l5_6 + 1)), (4, .int 0), (6, .int vg13), (0, .ref 49), (1, .ref 1), (2, .int x2), (3, .int x3)] [] (by rfl) ?_
                    refine ko_perm [(5, .int (l5_6 + 1)), (4, .int 0), (0, .ref 49), (1, .ref 1), (2, .int x2), (3, .int x3)] (List.forall_mem_cons.mpr ⟨(List.Mem.head _), (List.forall_mem_cons.mpr ⟨(List.Mem.tail _ (List.Mem.head _)), (List.forall_mem_cons.mpr ⟨(List.Mem.tail _ (List.Mem.tail _ (List.Mem.tail _ (List.Mem.head _)))), (List.forall_mem_cons.mpr ⟨(List.Mem.tail _ (List.Mem.tail _ (List.Mem.tail _ (List.Mem.tail _ (List.Mem.head _))))), (List.forall_mem_cons.mpr ⟨(List.Mem.tail _ (List.Mem.tail _ (List.Mem.tail _ (List.Mem.tail _ (List.Mem.tail _ (List.Mem.head _)))))), (List.forall_mem_cons.mpr ⟨(List.Mem.tail _ (List.Mem.tail _ (List.Mem.tail _ (List.Mem.tail _ (List.Mem.tail _ (List.Mem.tail _ (List.Mem.head _))))))), (fun _ h => absurd h List.not_mem_nil)⟩)⟩)⟩)⟩)⟩)⟩) ?_
                    have efig15_3138 : (ig15 3138).toInt = (ig13 3138).toInt := kg15.ti 3138 rfl
                    exact ih6 _ _ _ _ _ _ hGg15 (oz14 p6_0 s17 kn1) (oz1101_m efig13_3138 efig15_3138 p6_1) (kj_meas (oz1102_m s17 kn1) (oz1103_m c9 kn120) hm6)
                ·
                  have c18 : (ig13 3142).toInt < vg13.toInt := kd_leF c; clear c
                  have hJ19 := kG_i hGg13 3142 rfl (v := vg13) (kd_bd _)
                  have fig13_3138 : ((0 : Int) ≤ (ig13 3138).toInt) ∧ ((ig13 3138).toInt ≤ 20) := hJ19.I.1 3138
                  have efig13_3138 : (ig13 3138).toInt = (i6 3138).toInt := kg13.ti 3138 rfl
                  first | refine fo_goI mi_k69 fz69_100_11_120 [.int (ig13 3138), .int 0, .ref 78, .int 0, .ref 74] (ku ig13 3142 vg13) (by rfl) ?_ | refine ft_go mi_k69 11 120 [(6, .int vg13), (5, .int l5_6), (4, .int l4_6), (0, .ref 49), (1, .ref 1), (2, .int x2), (3, .int x3)] [.int (ig13 3138), .int 0, .ref 78, .int 0, .ref 74] (ku ig13 3142 vg13) ag13 qg13 rg13 (by rfl) ?_
                  refine ko_copyI3 mi_k69.1 (n := 20) (c := 20) (m := 5) (b := 5) (mi_k69.2 _ _ (by rfl)) (by rfl) (by rfl) (by rfl) (ksG74 _ _ _ _) (ksG78 _ _ _ _) (ksA78 _ _ _ _) (hJ19.I.2.1 74) rfl (hJ19.I.2.1 78) rfl (oz3 fig13_3138.1) (oz46 kn0) (oz46 kn0) (oz1104_m fig13_3138.2 kn0) (oz1105_m efig13_3138 p6_1 kn0) ?_
                  intro a21 ea21 fa21
                  have hJ21 := kG_al3 hJ19 78 rfl ea21 fa21 (kcpy_len2 (n := 20) (c := 20) (m := 5) (b := 5) (sp := 0) (dp := 0) (n1 := (ig13 3138)) (hJ19.I.2.1 74) rfl (hJ19.I.2.1 78) rfl (oz3 fig13_3138.1) (oz46 kn0) (oz46 kn0) (oz1104_m fig13_3138.2 kn0) (oz1105_m efig13_3138 p6_1 kn0)) (fun _ => kd_bd _)
                  refine fo_goS mi_k69 fz69_123_1_124 [.ref 49] rfl ?_
                  refine ko_callI mi_k69.1 (pc := 124) (ls := [(6, .int vg13), (5, .int l5_6), (4, .int l4_6), (0, .ref 49), (1, .ref 1), (2, .int x2), (3, .int x3)]) (st := [.ref 49]) (h := ks (ku ig13 3142 vg13) a21 qg13 rg13) (i := (.invokevirtual 109, 3, 70, 0, 9, 0, 252)) (mi_k69.2 _ _ (by rfl)) (ft_invS mi_pq70 (by rfl)) (cy := mi_c70) mi_pq70 rfl (kc70_49_m hJ21.I hJ21.R (oz1099_m efig13_3138 p6_1)) (by decide) ?_
                  intro vg22 ig22 ag22 qg22 rg22 kg22 hg22
                  have hGg22 := kG_call hJ21 kg22 (by decide +kernel)
                  rcases hg22 with ⟨eg22, hg22⟩ | ⟨eg22, hg22⟩
                  ·
                    subst eg22
                    have s23 : (l5_6 + 1).toInt = l5_6.toInt + (1 : Int32).toInt := kd_add (oz12 p6_0 kn1) (oz1100_m c9 kn120 kn1)
                    first | refine fo_goL mi_k69 fz69_66_3_71 [(5, .int (l5_6 + 1)), (4, .int 1), (6, .int vg13), (0, .ref 49), (1, .ref 1), (2, .int x2), (3, .int x3)] [] (by rfl) ?_ | refine fo_goL mi_k69 fz69_127_3_71 [(5, .int (l5_6 + 1)), (4, .int 1), (6, .int vg13), (0, .ref 49), (1, .ref 1), (2, .int x2), (3, .int x3)] [] (by rfl) ?_
                    refine ko_perm [(5, .int (l5_6 + 1)), (4, .int 1), (0, .ref 49), (1, .ref 1), (2, .int x2), (3, .int x3)] (List.forall_mem_cons.mpr ⟨(List.Mem.head _), (List.forall_mem_cons.mpr ⟨(List.Mem.tail _ (List.Mem.head _)), (List.forall_mem_cons.mpr ⟨(List.Mem.tail _ (List.Mem.tail _ (List.Mem.tail _ (List.Mem.head _)))), (List.forall_mem_cons.mpr ⟨(List.Mem.tail _ (List.Mem.tail _ (List.Mem.tail _ (List.Mem.tail _ (List.Mem.head _))))), (List.forall_mem_cons.mpr ⟨(List.Mem.tail _ (List.Mem.tail _ (List.Mem.tail _ (List.Mem.tail _ (List.Mem.tail _ (List.Mem.head _)))))), (List.forall_mem_cons.mpr ⟨(List.Mem.tail _ (List.Mem.tail _ (List.Mem.tail _ (List.Mem.tail _ (List.Mem.tail _ (List.Mem.tail _ (List.Mem.head _))))))), (fun _ h => absurd h List.not_mem_nil)⟩)⟩)⟩)⟩)⟩)⟩) ?_
                    have efig22_3138 : (ig22 3138).toInt = (ig13 3138).toInt := kg22.ti 3138 rfl
                    exact ih6 _ _ _ _ _ _ hGg22 (oz14 p6_0 s23 kn1) (oz1101_m efig13_3138 efig22_3138 p6_1) (kj_meas (oz1102_m s23 kn1) (oz1103_m c9 kn120) hm6)
                  ·
                    subst eg22
                    have s24 : (l5_6 + 1).toInt = l5_6.toInt + (1 : Int32).toInt := kd_add (oz12 p6_0 kn1) (oz1100_m c9 kn120 kn1)
                    first | refine fo_goL mi_k69 fz69_66_3_71 [(5, .int (l5_6 + 1)), (4, .int 0), (6, .int vg13), (0, .ref 49), (1, .ref 1), (2, .int x2), (3, .int x3)] [] (by rfl) ?_ | refine fo_goL mi_k69 fz69_127_3_71 [(5, .int (l5_6 + 1)), (4, .int 0), (6, .int vg13), (0, .ref 49), (1, .ref 1), (2, .int x2), (3, .int x3)] [] (by rfl) ?_
                    refine ko_perm [(5, .int (l5_6 + 1)), (4, .int 0), (0, .ref 49), (1, .ref 1), (2, .int x2), (3, .int x3)] (List.forall_mem_cons.mpr ⟨(List.Mem.head _), (List.forall_mem_cons.mpr ⟨(List.Mem.tail _ (List.Mem.head _)), (List.forall_mem_cons.mpr ⟨(List.Mem.tail _ (List.Mem.tail _ (List.Mem.tail _ (List.Mem.head _)))), (List.forall_mem_cons.mpr ⟨(List.Mem.tail _ (List.Mem.tail _ (List.Mem.tail _ (List.Mem.tail _ (List.Mem.head _))))), (List.forall_mem_cons.mpr ⟨(List.Mem.tail _ (List.Mem.tail _ (List.Mem.tail _ (List.Mem.tail _ (List.Mem.tail _ (List.Mem.head _)))))), (List.forall_mem_cons.mpr ⟨(List.Mem.tail _ (List.Mem.tail _ (List.Mem.tail _ (List.Mem.tail _ (List.Mem.tail _ (List.Mem.tail _ (List.Mem.head _))))))), (fun _ h => absurd h List.not_mem_nil)⟩)⟩)⟩)⟩)⟩)⟩) ?_
                    have efig22_3138 : (ig22 3138).toInt = (ig13 3138).toInt := kg22.ti 3138 rfl
                    exact ih6 _ _ _ _ _ _ hGg22 (oz14 p6_0 s24 kn1) (oz1101_m efig13_3138 efig22_3138 p6_1) (kj_meas (oz1102_m s24 kn1) (oz1103_m c9 kn120) hm6)
        exact lp6 _ _ _ _ _ _ _ (kG_self _ hJ5.I hJ5.R) (oz46 kn0) (oz527 p2_1) (Nat.lt_succ_self _)
      ·
        have c25 : l4_2.toInt < (8 : Int32).toInt := kd_leF c; clear c
        refine fo_goS mi_k69 fz69_15_3_20 [.int 5, .int (i2 3138)] rfl ?_
        refine ft_ifS mi_k69 (decide (5 ≤ (i2 3138))) 60 23 [] rfl (fun c => ?_) (fun c => ?_)
        ·
          have c26 : (5 : Int32).toInt ≤ (i2 3138).toInt := kd_le c; clear c
          have hG27 := kG_call hJ1 hL2 (by decide +kernel)
          have hJ28 := kG_i hG27 3142 rfl (v := (-1)) (kd_bd _)
          first | refine fo_go mi_k69 fz69_60_7_71 [(5, .int 0), (4, .int 1), (0, .ref 49), (1, .ref 1), (2, .int x2), (3, .int x3)] [] (ku i2 3142 (-1)) a2 q2 r2 (by rfl) ?_ | refine ft_goL mi_k69 7 71 [(5, .int 0), (4, .int 1), (0, .ref 49), (1, .ref 1), (2, .int x2), (3, .int x3)] [] (by rfl) ?_ | refine ft_go mi_k69 7 71 [(5, .int 0), (4, .int 1), (0, .ref 49), (1, .ref 1), (2, .int x2), (3, .int x3)] [] (ku i2 3142 (-1)) a2 q2 r2 (by rfl) ?_
          have lp29 : ∀ (nz : Nat) (i29 : Nat → Int32) (a29 : Nat → List Int32) (q29 : Nat → List Int64) (r29 : Nat → Nat) (l5_29 : Int32) (l4_29 : Int32), kG w69_49_1_L71_m (ku i2 3142 (-1)) a2 q2 r2 i29 a29 q29 r29 → (0 : Int) ≤ l5_29.toInt → (i29 3138).toInt ≤ 5 → ((120 - l5_29.toInt)).toNat < nz → ko 11 (mi_h69, mi_c69) P (71, [(5, .int l5_29), (4, .int l4_29), (0, .ref 49), (1, .ref 1), (2, .int x2), (3, .int x3)], [], (0, 0), ks i29 a29 q29 r29) := by
            intro nz
            induction nz with
            | zero =>
              intro _ _ _ _ _ _ _ _ _ hm
              exact absurd hm (Nat.not_lt_zero _)
            | succ nz ih29 =>
              intro i29 a29 q29 r29 l5_29 l4_29 hL29 p29_0 p29_1 hm29
              have efi29_3138 : (i29 3138).toInt = (i2 3138).toInt := hL29.ti 3138 rfl
              refine fo_goL mi_k69 fz69_71_2_75 [(5, .int l5_29), (4, .int l4_29), (0, .ref 49), (1, .ref 1), (2, .int x2), (3, .int x3)] [.int 120, .int l5_29] rfl ?_
              refine ft_ifS mi_k69 (decide (120 ≤ l5_29)) 135 78 [] rfl (fun c => ?_) (fun c => ?_)
              ·
                have c30 : (120 : Int32).toInt ≤ l5_29.toInt := kd_le c; clear c
                have hG31 := kG_call hJ28 hL29 (by decide +kernel)
                exact ft_ret mi_k69 rfl (hP  _ _ _ _ hG31 trivial)
              ·
                have c32 : l5_29.toInt < (120 : Int32).toInt := kd_leF c; clear c
                refine fo_goS mi_k69 fz69_78_1_80 [.int l4_29] rfl ?_
                refine ft_ifS mi_k69 (l4_29 == 0) 135 83 [] rfl (fun c => ?_) (fun c => ?_)
                ·
                  have c33 : l4_29.toInt = (0 : Int32).toInt := kd_eq c; clear c
                  have hG34 := kG_call hJ28 hL29 (by decide +kernel)
                  exact ft_ret mi_k69 rfl (hP  _ _ _ _ hG34 trivial)
                ·
                  have c35 : l4_29.toInt ≠ (0 : Int32).toInt := kd_eqF c; clear c
                  refine fo_goS mi_k69 fz69_83_3_86 [.int x3, .ref 1, .ref 49] rfl ?_
                  refine ko_callI mi_k69.1 (pc := 86) (ls := [(5, .int l5_29), (4, .int l4_29), (0, .ref 49), (1, .ref 1), (2, .int x2), (3, .int x3)]) (st := [.int x3, .ref 1, .ref 49]) (h := ks i29 a29 q29 r29) (i := (.invokevirtual 99, 3, 63, 0, 9, 0, 239)) (mi_k69.2 _ _ (by rfl)) (ft_invS mi_pq63 (by rfl)) (cy := mi_c63) mi_pq63 rfl (kc63_49_1_m hL29.I hL29.R x3) (by decide) ?_
                  intro vg36 ig36 ag36 qg36 rg36 kg36 hg36
                  have hGg36 := kG_call hL29 kg36 (by decide +kernel)
                  refine fo_goL mi_k69 fz69_89_4_97 [(6, .int vg36), (5, .int l5_29), (4, .int l4_29), (0, .ref 49), (1, .ref 1), (2, .int x2), (3, .int x3)] [.int (ig36 3142), .int vg36] rfl ?_
                  refine ft_ifS mi_k69 (decide (vg36 ≤ (ig36 3142))) 123 100 [] rfl (fun c => ?_) (fun c => ?_)
                  ·
                    have c37 : vg36.toInt ≤ (ig36 3142).toInt := kd_le c; clear c
                    refine fo_goS mi_k69 fz69_123_1_124 [.ref 49] rfl ?_
                    have efig36_3138 : (ig36 3138).toInt = (i29 3138).toInt := kg36.ti 3138 rfl
                    refine ko_callI mi_k69.1 (pc := 124) (ls := [(6, .int vg36), (5, .int l5_29), (4, .int l4_29), (0, .ref 49), (1, .ref 1), (2, .int x2), (3, .int x3)]) (st := [.ref 49]) (h := ks ig36 ag36 qg36 rg36) (i := (.invokevirtual 109, 3, 70, 0, 9, 0, 252)) (mi_k69.2 _ _ (by rfl)) (ft_invS mi_pq70 (by rfl)) (cy := mi_c70) mi_pq70 rfl (kc70_49_m hGg36.I hGg36.R (oz1099_m efig36_3138 p29_1)) (by decide) ?_
                    intro vg38 ig38 ag38 qg38 rg38 kg38 hg38
                    have hGg38 := kG_call hGg36 kg38 (by decide +kernel)
                    rcases hg38 with ⟨eg38, hg38⟩ | ⟨eg38, hg38⟩
                    ·
                      subst eg38
                      have s39 : (l5_29 + 1).toInt = l5_29.toInt + (1 : Int32).toInt := kd_add (oz12 p29_0 kn1) (oz1100_m c32 kn120 kn1)
                      first | refine fo_goL mi_k69 fz69_66_3_71 [(5, .int (l5_29 + 1)), (4, .int 1), (6, .int vg36), (0, .ref 49), (1, .ref 1), (2, .int x2), (3, .int x3)] [] (by rfl) ?_ | refine fo_goL mi_k69 fz69_127_3_71 [(5, .int (l5_29 + 1)), (4, .int 1), (6, .int vg36), (0, .ref 49), (1, .ref 1), (2, .int x2), (3, .int x3)] [] (by rfl) ?_
                      refine ko_perm [(5, .int (l5_29 + 1)), (4, .int 1), (0, .ref 49), (1, .ref 1), (2, .int x2), (3, .int x3)] (List.forall_mem_cons.mpr ⟨(List.Mem.head _), (List.forall_mem_cons.mpr ⟨(List.Mem.tail _ (List.Mem.head _)), (List.forall_mem_cons.mpr ⟨(List.Mem.tail _ (List.Mem.tail _ (List.Mem.tail _ (List.Mem.head _)))), (List.forall_mem_cons.mpr ⟨(List.Mem.tail _ (List.Mem.tail _ (List.Mem.tail _ (List.Mem.tail _ (List.Mem.head _))))), (List.forall_mem_cons.mpr ⟨(List.Mem.tail _ (List.Mem.tail _ (List.Mem.tail _ (List.Mem.tail _ (List.Mem.tail _ (List.Mem.head _)))))), (List.forall_mem_cons.mpr ⟨(List.Mem.tail _ (List.Mem.tail _ (List.Mem.tail _ (List.Mem.tail _ (List.Mem.tail _ (List.Mem.tail _ (List.Mem.head _))))))), (fun _ h => absurd h List.not_mem_nil)⟩)⟩)⟩)⟩)⟩)⟩) ?_
                      have efig38_3138 : (ig38 3138).toInt = (ig36 3138).toInt := kg38.ti 3138 rfl
                      exact ih29 _ _ _ _ _ _ hGg38 (oz14 p29_0 s39 kn1) (oz1101_m efig36_3138 efig38_3138 p29_1) (kj_meas (oz1102_m s39 kn1) (oz1103_m c32 kn120) hm29)
                    ·
                      subst eg38
                      have s40 : (l5_29 + 1).toInt = l5_29.toInt + (1 : Int32).toInt := kd_add (oz12 p29_0 kn1) (oz1100_m c32 kn120 kn1)
                      first | refine fo_goL mi_k69 fz69_66_3_71 [(5, .int (l5_29 + 1)), (4, .int 0), (6, .int vg36), (0, .ref 49), (1, .ref 1), (2, .int x2), (3, .int x3)] [] (by rfl) ?_ | refine fo_goL mi_k69 fz69_127_3_71 [(5, .int (l5_29 + 1)), (4, .int 0), (6, .int vg36), (0, .ref 49), (1, .ref 1), (2, .int x2), (3, .int x3)] [] (by rfl) ?_
                      refine ko_perm [(5, .int (l5_29 + 1)), (4, .int 0), (0, .ref 49), (1, .ref 1), (2, .int x2), (3, .int x3)] (List.forall_mem_cons.mpr ⟨(List.Mem.head _), (List.forall_mem_cons.mpr ⟨(List.Mem.tail _ (List.Mem.head _)), (List.forall_mem_cons.mpr ⟨(List.Mem.tail _ (List.Mem.tail _ (List.Mem.tail _ (List.Mem.head _)))), (List.forall_mem_cons.mpr ⟨(List.Mem.tail _ (List.Mem.tail _ (List.Mem.tail _ (List.Mem.tail _ (List.Mem.head _))))), (List.forall_mem_cons.mpr ⟨(List.Mem.tail _ (List.Mem.tail _ (List.Mem.tail _ (List.Mem.tail _ (List.Mem.tail _ (List.Mem.head _)))))), (List.forall_mem_cons.mpr ⟨(List.Mem.tail _ (List.Mem.tail _ (List.Mem.tail _ (List.Mem.tail _ (List.Mem.tail _ (List.Mem.tail _ (List.Mem.head _))))))), (fun _ h => absurd h List.not_mem_nil)⟩)⟩)⟩)⟩)⟩)⟩) ?_
                      have efig38_3138 : (ig38 3138).toInt = (ig36 3138).toInt := kg38.ti 3138 rfl
                      exact ih29 _ _ _ _ _ _ hGg38 (oz14 p29_0 s40 kn1) (oz1101_m efig36_3138 efig38_3138 p29_1) (kj_meas (oz1102_m s40 kn1) (oz1103_m c32 kn120) hm29)
                  ·
                    have c41 : (ig36 3142).toInt < vg36.toInt := kd_leF c; clear c
                    have hJ42 := kG_i hGg36 3142 rfl (v := vg36) (kd_bd _)
                    have fig36_3138 : ((0 : Int) ≤ (ig36 3138).toInt) ∧ ((ig36 3138).toInt ≤ 20) := hJ42.I.1 3138
                    have efig36_3138 : (ig36 3138).toInt = (i29 3138).toInt := kg36.ti 3138 rfl
                    first | refine fo_goI mi_k69 fz69_100_11_120 [.int (ig36 3138), .int 0, .ref 78, .int 0, .ref 74] (ku ig36 3142 vg36) (by rfl) ?_ | refine ft_go mi_k69 11 120 [(6, .int vg36), (5, .int l5_29), (4, .int l4_29), (0, .ref 49), (1, .ref 1), (2, .int x2), (3, .int x3)] [.int (ig36 3138), .int 0, .ref 78, .int 0, .ref 74] (ku ig36 3142 vg36) ag36 qg36 rg36 (by rfl) ?_
                    refine ko_copyI3 mi_k69.1 (n := 20) (c := 20) (m := 5) (b := 5) (mi_k69.2 _ _ (by rfl)) (by rfl) (by rfl) (by rfl) (ksG74 _ _ _ _) (ksG78 _ _ _ _) (ksA78 _ _ _ _) (hJ42.I.2.1 74) rfl (hJ42.I.2.1 78) rfl (oz1111_m c26 efi29_3138 efig36_3138 kn5) (oz46 kn0) (oz46 kn0) (oz1104_m fig36_3138.2 kn0) (oz1105_m efig36_3138 p29_1 kn0) ?_
                    intro a44 ea44 fa44
                    have hJ44 := kG_al3 hJ42 78 rfl ea44 fa44 (kcpy_len2 (n := 20) (c := 20) (m := 5) (b := 5) (sp := 0) (dp := 0) (n1 := (ig36 3138)) (hJ42.I.2.1 74) rfl (hJ42.I.2.1 78) rfl (oz1111_m c26 efi29_3138 efig36_3138 kn5) (oz46 kn0) (oz46 kn0) (oz1104_m fig36_3138.2 kn0) (oz1105_m efig36_3138 p29_1 kn0)) (fun _ => kd_bd _)
                    refine fo_goS mi_k69 fz69_123_1_124 [.ref 49] rfl ?_
                    refine ko_callI mi_k69.1 (pc := 124) (ls := [(6, .int vg36), (5, .int l5_29), (4, .int l4_29), (0, .ref 49), (1, .ref 1), (2, .int x2), (3, .int x3)]) (st := [.ref 49]) (h := ks (ku ig36 3142 vg36) a44 qg36 rg36) (i := (.invokevirtual 109, 3, 70, 0, 9, 0, 252)) (mi_k69.2 _ _ (by rfl)) (ft_invS mi_pq70 (by rfl)) (cy := mi_c70) mi_pq70 rfl (kc70_49_m hJ44.I hJ44.R (oz1099_m efig36_3138 p29_1)) (by decide) ?_
                    intro vg45 ig45 ag45 qg45 rg45 kg45 hg45
                    have hGg45 := kG_call hJ44 kg45 (by decide +kernel)
                    rcases hg45 with ⟨eg45, hg45⟩ | ⟨eg45, hg45⟩
                    ·
                      subst eg45
                      have s46 : (l5_29 + 1).toInt = l5_29.toInt + (1 : Int32).toInt := kd_add (oz12 p29_0 kn1) (oz1100_m c32 kn120 kn1)
                      first | refine fo_goL mi_k69 fz69_66_3_71 [(5, .int (l5_29 + 1)), (4, .int 1), (6, .int vg36), (0, .ref 49), (1, .ref 1), (2, .int x2), (3, .int x3)] [] (by rfl) ?_ | refine fo_goL mi_k69 fz69_127_3_71 [(5, .int (l5_29 + 1)), (4, .int 1), (6, .int vg36), (0, .ref 49), (1, .ref 1), (2, .int x2), (3, .int x3)] [] (by rfl) ?_
                      refine ko_perm [(5, .int (l5_29 + 1)), (4, .int 1), (0, .ref 49), (1, .ref 1), (2, .int x2), (3, .int x3)] (List.forall_mem_cons.mpr ⟨(List.Mem.head _), (List.forall_mem_cons.mpr ⟨(List.Mem.tail _ (List.Mem.head _)), (List.forall_mem_cons.mpr ⟨(List.Mem.tail _ (List.Mem.tail _ (List.Mem.tail _ (List.Mem.head _)))), (List.forall_mem_cons.mpr ⟨(List.Mem.tail _ (List.Mem.tail _ (List.Mem.tail _ (List.Mem.tail _ (List.Mem.head _))))), (List.forall_mem_cons.mpr ⟨(List.Mem.tail _ (List.Mem.tail _ (List.Mem.tail _ (List.Mem.tail _ (List.Mem.tail _ (List.Mem.head _)))))), (List.forall_mem_cons.mpr ⟨(List.Mem.tail _ (List.Mem.tail _ (List.Mem.tail _ (List.Mem.tail _ (List.Mem.tail _ (List.Mem.tail _ (List.Mem.head _))))))), (fun _ h => absurd h List.not_mem_nil)⟩)⟩)⟩)⟩)⟩)⟩) ?_
                      have efig45_3138 : (ig45 3138).toInt = (ig36 3138).toInt := kg45.ti 3138 rfl
                      exact ih29 _ _ _ _ _ _ hGg45 (oz14 p29_0 s46 kn1) (oz1101_m efig36_3138 efig45_3138 p29_1) (kj_meas (oz1102_m s46 kn1) (oz1103_m c32 kn120) hm29)
                    ·
                      subst eg45
                      have s47 : (l5_29 + 1).toInt = l5_29.toInt + (1 : Int32).toInt := kd_add (oz12 p29_0 kn1) (oz1100_m c32 kn120 kn1)
                      first | refine fo_goL mi_k69 fz69_66_3_71 [(5, .int (l5_29 + 1)), (4, .int 0), (6, .int vg36), (0, .ref 49), (1, .ref 1), (2, .int x2), (3, .int x3)] [] (by rfl) ?_ | refine fo_goL mi_k69 fz69_127_3_71 [(5, .int (l5_29 + 1)), (4, .int 0), (6, .int vg36), (0, .ref 49), (1, .ref 1), (2, .int x2), (3, .int x3)] [] (by rfl) ?_
                      refine ko_perm [(5, .int (l5_29 + 1)), (4, .int 0), (0, .ref 49), (1, .ref 1), (2, .int x2), (3, .int x3)] (List.forall_mem_cons.mpr ⟨(List.Mem.head _), (List.forall_mem_cons.mpr ⟨(List.Mem.tail _ (List.Mem.head _)), (List.forall_mem_cons.mpr ⟨(List.Mem.tail _ (List.Mem.tail _ (List.Mem.tail _ (List.Mem.head _)))), (List.forall_mem_cons.mpr ⟨(List.Mem.tail _ (List.Mem.tail _ (List.Mem.tail _ (List.Mem.tail _ (List.Mem.head _))))), (List.forall_mem_cons.mpr ⟨(List.Mem.tail _ (List.Mem.tail _ (List.Mem.tail _ (List.Mem.tail _ (List.Mem.tail _ (List.Mem.head _)))))), (List.forall_mem_cons.mpr ⟨(List.Mem.tail _ (List.Mem.tail _ (List.Mem.tail _ (List.Mem.tail _ (List.Mem.tail _ (List.Mem.tail _ (List.Mem.head _))))))), (fun _ h => absurd h List.not_mem_nil)⟩)⟩)⟩)⟩)⟩)⟩) ?_
                      have efig45_3138 : (ig45 3138).toInt = (ig36 3138).toInt := kg45.ti 3138 rfl
                      exact ih29 _ _ _ _ _ _ hGg45 (oz14 p29_0 s47 kn1) (oz1101_m efig36_3138 efig45_3138 p29_1) (kj_meas (oz1102_m s47 kn1) (oz1103_m c32 kn120) hm29)
          exact lp29 _ _ _ _ _ _ _ (kG_self _ hJ28.I hJ28.R) (oz46 kn0) (oz527 p2_1) (Nat.lt_succ_self _)
        ·
          have c48 : (i2 3138).toInt < (5 : Int32).toInt := kd_leF c; clear c
          first | refine ft_goS mi_k69 6 30 [.int 1, .int ((x2 >>> (l4_2 &&& 31)) &&& 1)] (by rfl) ?_ | refine ft_go mi_k69 6 30 [(4, .int l4_2), (0, .ref 49), (1, .ref 1), (2, .int x2), (3, .int x3)] [.int 1, .int ((x2 >>> (l4_2 &&& 31)) &&& 1)] i2 a2 q2 r2 (by rfl) ?_
          refine ft_ifS mi_k69 (((x2 >>> (l4_2 &&& 31)) &&& 1) != 1) 54 33 [] rfl (fun c => ?_) (fun c => ?_)
          ·
            have c49 : ((x2 >>> (l4_2 &&& 31)) &&& 1).toInt ≠ (1 : Int32).toInt := kd_ne c; clear c
            have s50 : (l4_2 + 1).toInt = l4_2.toInt + (1 : Int32).toInt := kd_add (oz12 p2_0 kn1) (oz474 c25 kn8 kn1)
            first | refine fo_goL mi_k69 fz69_5_2_8 [(4, .int (l4_2 + 1)), (0, .ref 49), (1, .ref 1), (2, .int x2), (3, .int x3)] [] (by rfl) ?_ | refine fo_goL mi_k69 fz69_54_2_8 [(4, .int (l4_2 + 1)), (0, .ref 49), (1, .ref 1), (2, .int x2), (3, .int x3)] [] (by rfl) ?_
            exact ih2 _ _ _ _ _ hL2 (oz14 p2_0 s50 kn1) (oz527 p2_1) (kj_meas (oz475 s50 kn1) (oz476 c25 kn8) hm2)
          ·
            have c51 : ((x2 >>> (l4_2 &&& 31)) &&& 1).toInt = (1 : Int32).toInt := kd_neF c; clear c
            refine fo_goS mi_k69 fz69_33_5_43 [.int l4_2, .int (i2 3138), .ref 74] rfl ?_
            refine ko_iast3 mi_k69.1 (n := 20) (c := 20) (ax := (0, 0, 0, 0, 0)) (mi_k69.2 _ _ (by rfl)) (by rfl) (ksG74 _ _ _ _) (ksA74 _ _ _ _) (hL2.I.2.1 74) rfl (oz3 fi2_3138.1) (oz1112_m p2_1) ?_
            intro a52 ea52 fa52
            have hJ52 := kG_a3 hL2 74 rfl ea52 fa52 (kd_bd _)
            have s53 : ((i2 3138) + 1).toInt = (i2 3138).toInt + (1 : Int32).toInt := kd_add (oz12 fi2_3138.1 kn1) (oz448 fi2_3138.2 kn1)
            have hJ54 := kG_i hJ52 3138 rfl (v := ((i2 3138) + 1)) ⟨(oz14 fi2_3138.1 s53 kn1), (oz1113_m p2_1 s53 kn1)⟩
            have s55 : (l4_2 + 1).toInt = l4_2.toInt + (1 : Int32).toInt := kd_add (oz12 p2_0 kn1) (oz474 c25 kn8 kn1)
            first | refine fo_go mi_k69 fz69_44_8_8 [(4, .int (l4_2 + 1)), (0, .ref 49), (1, .ref 1), (2, .int x2), (3, .int x3)] [] (ku i2 3138 ((i2 3138) + 1)) a52 q2 r2 (by rfl) ?_ | refine ft_goL mi_k69 8 8 [(4, .int (l4_2 + 1)), (0, .ref 49), (1, .ref 1), (2, .int x2), (3, .int x3)] [] (by rfl) ?_ | refine ft_go mi_k69 8 8 [(4, .int (l4_2 + 1)), (0, .ref 49), (1, .ref 1), (2, .int x2), (3, .int x3)] [] (ku i2 3138 ((i2 3138) + 1)) a52 q2 r2 (by rfl) ?_
            exact ih2 _ _ _ _ _ hJ54 (oz14 p2_0 s55 kn1) (oz1044_m c48 s53 kn5 kn1) (kj_meas (oz475 s55 kn1) (oz476 c25 kn8) hm2)
  exact lp2 _ _ _ _ _ _ (kG_self _ hJ1.I hJ1.R) (oz46 kn0) (oz1110_m kn0) (Nat.lt_succ_self _)
def w94_0_m : kW := ([645, 3138, 3142, 3200, 3206, 3207, 3208, 3209, 3214, 3215, 3216, 3586, 3781, 6405], [13, 51, 52, 53, 54, 55, 57, 58, 62, 63, 65, 66, 67, 68, 69, 70, 71, 72, 73, 74, 78, 103], [], [1])
set_option maxRecDepth 100000 in
theorem kc94_0_m {i : Nat → Int32} {a : Nat → List Int32} {q : Nat → List Int64} {r : Nat → Nat} (hI : kI i a q) (hr : kr r) (x1 : Int32) (x2 : Int32) (x3 : Int32) : km 13 94 [.ref 0, .int x1, .int x2, .int x3] (ks i a q r) (kVI w94_0_m i a q r (fun v i1 a1 q1 r1 => True)) := by
  have hG := kG_self w94_0_m hI hr
  refine km_ofI (q := (mi_h94, mi_c94)) rfl (by decide) (Nat.le_of_ble_eq_true rfl) ?_
  intro P hP
  refine fo_goL mi_k94 fz94_0_1_1 [(0, .ref 0), (1, .int x1), (2, .int x2), (3, .int x3)] [.int x1] rfl ?_
  refine ft_ifS mi_k94 (decide (x1 < 0)) 30 4 [] rfl (fun c => ?_) (fun c => ?_)
  ·
    have c1 : x1.toInt < (0 : Int32).toInt := kd_lt c; clear c
    refine fo_goS mi_k94 fz94_30_1_31 [.int (-1)] rfl ?_
    exact ft_ret mi_k94 rfl (hP (-1) _ _ _ _ hG trivial)
  ·
    have c2 : (0 : Int32).toInt ≤ x1.toInt := kd_ltF c; clear c
    have fi_64 : ((0 : Int) ≤ (i 64).toInt) ∧ ((i 64).toInt ≤ 8) := hG.I.1 64
    have s3 : ((1 : Int) ≤ (1 <<< ((i 64) &&& 31)).toInt) ∧ ((1 <<< ((i 64) &&& 31)).toInt ≤ 256) := kd_shl1 (oz3 fi_64.1) (oz559 fi_64.2)
    first | refine ft_goS mi_k94 6 14 [.int (1 <<< ((i 64) &&& 31)), .int x1] (by rfl) ?_ | refine ft_go mi_k94 6 14 [(0, .ref 0), (1, .int x1), (2, .int x2), (3, .int x3)] [.int (1 <<< ((i 64) &&& 31)), .int x1] i a q r (by rfl) ?_
    refine ft_ifS mi_k94 (decide ((1 <<< ((i 64) &&& 31)) ≤ x1)) 30 17 [] rfl (fun c => ?_) (fun c => ?_)
    ·
      have c4 : (1 <<< ((i 64) &&& 31)).toInt ≤ x1.toInt := kd_le c; clear c
      refine fo_goS mi_k94 fz94_30_1_31 [.int (-1)] rfl ?_
      exact ft_ret mi_k94 rfl (hP (-1) _ _ _ _ hG trivial)
    ·
      have c5 : x1.toInt < (1 <<< ((i 64) &&& 31)).toInt := kd_leF c; clear c
      refine fo_goS mi_k94 fz94_17_2_19 [.int x2, .ref 0] rfl ?_
      refine ko_callPI mi_k94.1 (pc := 19) (ls := [(0, .ref 0), (1, .int x1), (2, .int x2), (3, .int x3)]) (st := [.int x2, .ref 0]) (h := ks i a q r) (i := (.invokevirtual 141, 3, 123, 0, 9, 0, 162)) (mi_k94.2 _ _ (by rfl)) (ft_invS mi_pq123 (by rfl)) (cy := mi_c123) mi_pq123 rfl (kc123_0 hG.I hG.R x2) (by decide) ?_
      intro vg6 hg6
      rcases hg6 with ⟨eg6, hg6⟩ | ⟨eg6, hg6⟩
      ·
        subst eg6
        refine fo_goS mi_k94 fz94_22_3_27 [.int (-1), .int x3] rfl ?_
        refine ft_ifS mi_k94 (decide ((-1) ≤ x3)) 32 30 [] rfl (fun c => ?_) (fun c => ?_)
        ·
          have c8 : ((-1) : Int32).toInt ≤ x3.toInt := kd_le c; clear c
          refine fo_goS mi_k94 fz94_32_1_33 [.int x1] rfl ?_
          refine ko_callPI mi_k94.1 (pc := 33) (ls := [(0, .ref 0), (1, .int x1), (2, .int x2), (3, .int x3)]) (st := [.int x1]) (h := ks i a q r) (i := (.invokestatic 188, 3, 226, 0, 9, 0, 247)) (mi_k94.2 _ _ (by rfl)) (ft_invS mi_pq226 (by rfl)) (cy := mi_c226) mi_pq226 rfl (kc226 hG.I hG.R x1) (by decide) ?_
          intro vg9 hg9
          refine fo_goL mi_k94 fz94_36_3_41 [(4, .int vg9), (0, .ref 0), (1, .int x1), (2, .int x2), (3, .int x3)] [.int vg9, .int x3] rfl ?_
          refine ft_ifS mi_k94 (decide (x3 < vg9)) 47 44 [] rfl (fun c => ?_) (fun c => ?_)
          ·
            have c11 : x3.toInt < vg9.toInt := kd_lt c; clear c
            refine fo_goS mi_k94 fz94_47_2_50 [.int 5, .int vg9] rfl ?_
            refine ft_ifS mi_k94 (decide (vg9 ≤ 5)) 56 53 [] rfl (fun c => ?_) (fun c => ?_)
            ·
              have c12 : vg9.toInt ≤ (5 : Int32).toInt := kd_le c; clear c
              refine fo_goS mi_k94 fz94_56_6_66 [.int x2, .int x1, .ref 1, .ref 49] rfl ?_
              refine ko_callN mi_k94.1 (pc := 66) (ls := [(4, .int vg9), (0, .ref 0), (1, .int x1), (2, .int x2), (3, .int x3)]) (st := [.int x2, .int x1, .ref 1, .ref 49]) (h := ks i a q r) (i := (.invokevirtual 193, 3, 69, 0, 9, 0, 251)) (mi_k94.2 _ _ (by rfl)) (ft_invS mi_pq69 (by rfl)) (cy := mi_c69) mi_pq69 rfl (kc69_49_1_m hG.I hG.R x1 x2) (by decide) ?_
              intro ig13 ag13 qg13 rg13 kg13 hg13
              have hGg13 := kG_call hG kg13 (by decide +kernel)
              refine fo_goS mi_k94 fz94_69_1_70 [.int x3] rfl ?_
              refine ft_ifS mi_k94 (decide (0 ≤ x3)) 83 73 [] rfl (fun c => ?_) (fun c => ?_)
              ·
                have c14 : (0 : Int32).toInt ≤ x3.toInt := kd_le c; clear c
                refine fo_goS mi_k94 fz94_83_4_91 [.int x3, .ref 78] rfl ?_
                refine ko_iald3 mi_k94.1 (n := 5) (c := 5) (ax := (0, 0, 0, 0, 0)) (mi_k94.2 _ _ (by rfl)) (by rfl) (ksG78 _ _ _ _) (hGg13.I.2.1 78) rfl (oz389 c14 kn0) (oz1114_m c11 c12 kn5) ?_
                exact ft_ret mi_k94 rfl (hP ((ag13 78).getD x3.toNatClampNeg 0) _ _ _ _ hGg13 trivial)
              ·
                have c15 : x3.toInt < (0 : Int32).toInt := kd_leF c; clear c
                first | refine fo_goS mi_k94 fz94_73_4_92 [.int (ig13 3142)] (by rfl) ?_ | refine ft_goS mi_k94 4 92 [.int (ig13 3142)] (by rfl) ?_ | refine ft_go mi_k94 4 92 [(4, .int vg9), (0, .ref 0), (1, .int x1), (2, .int x2), (3, .int x3)] [.int (ig13 3142)] ig13 ag13 qg13 rg13 (by rfl) ?_
                exact ft_ret mi_k94 rfl (hP (ig13 3142) _ _ _ _ hGg13 trivial)
            ·
              have c16 : (5 : Int32).toInt < vg9.toInt := kd_leF c; clear c
              refine fo_goS mi_k94 fz94_53_1_55 [.int (-5)] rfl ?_
              exact ft_ret mi_k94 rfl (hP (-5) _ _ _ _ hG trivial)
          ·
            have c17 : vg9.toInt ≤ x3.toInt := kd_ltF c; clear c
            refine fo_goS mi_k94 fz94_44_1_46 [.int (-2)] rfl ?_
            exact ft_ret mi_k94 rfl (hP (-2) _ _ _ _ hG trivial)
        ·
          have c18 : x3.toInt < ((-1) : Int32).toInt := kd_leF c; clear c
          refine fo_goS mi_k94 fz94_30_1_31 [.int (-1)] rfl ?_
          exact ft_ret mi_k94 rfl (hP (-1) _ _ _ _ hG trivial)
      ·
        subst eg6
        first | refine fo_goS mi_k94 fz94_1_2_31 [.int (-1)] (by rfl) ?_ | refine fo_goS mi_k94 fz94_22_2_31 [.int (-1)] (by rfl) ?_ | refine ft_goS mi_k94 2 31 [.int (-1)] (by rfl) ?_ | refine ft_go mi_k94 2 31 [(0, .ref 0), (1, .int x1), (2, .int x2), (3, .int x3)] [.int (-1)] i a q r (by rfl) ?_
        exact ft_ret mi_k94 rfl (hP (-1) _ _ _ _ hG trivial)
set_option maxRecDepth 100000 in
theorem kc124_0_m {i : Nat → Int32} {a : Nat → List Int32} {q : Nat → List Int64} {r : Nat → Nat} (hI : kI i a q) (hr : kr r) (x1 : Int32) : km 5 124 [.ref 0, .int x1] (ks i a q r) (kPI (ks i a q r) (fun v => (v = 1 ∧ (((0 : Int) ≤ x1.toInt) ∧ (((x1.toInt / 10) < (i 64).toInt) ∧ ((x1.toInt % 10) < (i 64).toInt)) ∧ ((x1.toInt / 10) ≠ (x1.toInt % 10)))) ∨ (v = 0 ∧ (¬ (((0 : Int) ≤ x1.toInt) ∧ (((x1.toInt / 10) < (i 64).toInt) ∧ ((x1.toInt % 10) < (i 64).toInt)) ∧ ((x1.toInt / 10) ≠ (x1.toInt % 10))))))) := by
  have hG := kG_self kW0 hI hr
  refine km_ofPI (q := (mi_h124, mi_c124)) rfl (by decide) (Nat.le_of_ble_eq_true rfl) ?_
  intro P hP
  refine fo_goL mi_k124 fz124_0_1_1 [(0, .ref 0), (1, .int x1)] [.int x1] rfl ?_
  refine ft_ifS mi_k124 (decide (x1 < 0)) 41 4 [] rfl (fun c => ?_) (fun c => ?_)
  ·
    have c1 : x1.toInt < (0 : Int32).toInt := kd_lt c; clear c
    first | refine fo_goS mi_k124 fz124_38_1_42 [.int 0] (by rfl) ?_ | refine fo_goS mi_k124 fz124_41_1_42 [.int 0] (by rfl) ?_
    exact ft_ret mi_k124 rfl (hP 0 (Or.inr ⟨rfl, (oz458 c1 kn0)⟩))
  ·
    have c2 : (0 : Int32).toInt ≤ x1.toInt := kd_ltF c; clear c
    have s3 : (x1 / 10).toInt = (x1.toInt / 10) := kd_div 10 kn10 (by decide) (oz389 c2 kn0)
    refine fo_goS mi_k124 fz124_4_4_9 [.int (x1 / 10), .ref 0] rfl ?_
    refine ko_callPI mi_k124.1 (pc := 9) (ls := [(0, .ref 0), (1, .int x1)]) (st := [.int (x1 / 10), .ref 0]) (h := ks i a q r) (i := (.invokevirtual 141, 3, 123, 0, 9, 0, 162)) (mi_k124.2 _ _ (by rfl)) (ft_invS mi_pq123 (by rfl)) (cy := mi_c123) mi_pq123 rfl (kc123_0 hG.I hG.R (x1 / 10)) (by decide) ?_
    intro vg4 hg4
    rcases hg4 with ⟨eg4, hg4⟩ | ⟨eg4, hg4⟩
    ·
      subst eg4
      have z5 : ((0 : Int) ≤ (x1 / 10).toInt) ∧ ((x1 / 10).toInt < (i 64).toInt) := hg4
      have s6 : (x1 - x1 / 10 * 10).toInt = (x1.toInt % 10) := kd_rem 10 kn10 (by decide) (oz389 c2 kn0)
      refine fo_goS mi_k124 fz124_12_5_20 [.int (x1 - x1 / 10 * 10), .ref 0] rfl ?_
      refine ko_callPI mi_k124.1 (pc := 20) (ls := [(0, .ref 0), (1, .int x1)]) (st := [.int (x1 - x1 / 10 * 10), .ref 0]) (h := ks i a q r) (i := (.invokevirtual 141, 3, 123, 0, 9, 0, 162)) (mi_k124.2 _ _ (by rfl)) (ft_invS mi_pq123 (by rfl)) (cy := mi_c123) mi_pq123 rfl (kc123_0 hG.I hG.R (x1 - x1 / 10 * 10)) (by decide) ?_
      intro vg7 hg7
      rcases hg7 with ⟨eg7, hg7⟩ | ⟨eg7, hg7⟩
      ·
        subst eg7
        have z8 : ((0 : Int) ≤ (x1 - x1 / 10 * 10).toInt) ∧ ((x1 - x1 / 10 * 10).toInt < (i 64).toInt) := hg7
        refine fo_goS mi_k124 fz124_23_7_34 [.int (x1 - x1 / 10 * 10), .int (x1 / 10)] rfl ?_
        refine ft_ifS mi_k124 ((x1 / 10) == (x1 - x1 / 10 * 10)) 41 37 [] rfl (fun c => ?_) (fun c => ?_)
        ·
          have c9 : (x1 / 10).toInt = (x1 - x1 / 10 * 10).toInt := kd_eq c; clear c
          first | refine fo_goS mi_k124 fz124_38_1_42 [.int 0] (by rfl) ?_ | refine fo_goS mi_k124 fz124_41_1_42 [.int 0] (by rfl) ?_
          exact ft_ret mi_k124 rfl (hP 0 (Or.inr ⟨rfl, (oz459 c9 s3 s6)⟩))
        ·
          have c10 : (x1 / 10).toInt ≠ (x1 - x1 / 10 * 10).toInt := kd_eqF c; clear c
          first | refine fo_goS mi_k124 fz124_37_2_42 [.int 1] (by rfl) ?_ | refine fo_goS mi_k124 fz124_1_2_42 [.int 1] (by rfl) ?_ | refine fo_goS mi_k124 fz124_12_2_42 [.int 1] (by rfl) ?_ | refine fo_goS mi_k124 fz124_23_2_42 [.int 1] (by rfl) ?_ | refine ft_goS mi_k124 2 42 [.int 1] (by rfl) ?_ | refine ft_go mi_k124 2 42 [(0, .ref 0), (1, .int x1)] [.int 1] i a q r (by rfl) ?_
          exact ft_ret mi_k124 rfl (hP 1 (Or.inl ⟨rfl, (oz460 c10 c2 s3 s6 z5.2 z8.2 kn0)⟩))
      ·
        subst eg7
        have z11 : ¬ (((0 : Int) ≤ (x1 - x1 / 10 * 10).toInt) ∧ ((x1 - x1 / 10 * 10).toInt < (i 64).toInt)) := hg7
        first | refine fo_goS mi_k124 fz124_37_2_42 [.int 0] (by rfl) ?_ | refine fo_goS mi_k124 fz124_1_2_42 [.int 0] (by rfl) ?_ | refine fo_goS mi_k124 fz124_12_2_42 [.int 0] (by rfl) ?_ | refine fo_goS mi_k124 fz124_23_2_42 [.int 0] (by rfl) ?_ | refine ft_goS mi_k124 2 42 [.int 0] (by rfl) ?_ | refine ft_go mi_k124 2 42 [(0, .ref 0), (1, .int x1)] [.int 0] i a q r (by rfl) ?_
        exact ft_ret mi_k124 rfl (hP 0 (Or.inr ⟨rfl, (oz461 s6 z11)⟩))
    ·
      subst eg4
      have z12 : ¬ (((0 : Int) ≤ (x1 / 10).toInt) ∧ ((x1 / 10).toInt < (i 64).toInt)) := hg4
      first | refine fo_goS mi_k124 fz124_37_2_42 [.int 0] (by rfl) ?_ | refine fo_goS mi_k124 fz124_1_2_42 [.int 0] (by rfl) ?_ | refine fo_goS mi_k124 fz124_12_2_42 [.int 0] (by rfl) ?_ | refine fo_goS mi_k124 fz124_23_2_42 [.int 0] (by rfl) ?_ | refine ft_goS mi_k124 2 42 [.int 0] (by rfl) ?_ | refine ft_go mi_k124 2 42 [(0, .ref 0), (1, .int x1)] [.int 0] i a q r (by rfl) ?_
      exact ft_ret mi_k124 rfl (hP 0 (Or.inr ⟨rfl, (oz462 c2 s3 z12 kn0)⟩))
def w95_0_m : kW := ([645, 3138, 3200, 3206, 3207, 3208, 3209, 3214, 3215, 3216, 3586, 3781, 6405], [13, 51, 52, 53, 54, 55, 57, 58, 62, 63, 65, 66, 67, 68, 69, 70, 71, 72, 73, 74, 75, 76, 77, 103], [], [1])
set_option maxRecDepth 100000 in
theorem kc95_0_m {i : Nat → Int32} {a : Nat → List Int32} {q : Nat → List Int64} {r : Nat → Nat} (hI : kI i a q) (hr : kr r) (x1 : Int32) (x2 : Int32) : km 13 95 [.ref 0, .int x1, .int x2] (ks i a q r) (kVI w95_0_m i a q r (fun v i1 a1 q1 r1 => True)) := by
  have hG := kG_self w95_0_m hI hr
  refine km_ofI (q := (mi_h95, mi_c95)) rfl (by decide) (Nat.le_of_ble_eq_true rfl) ?_
  intro P hP
  refine fo_goL mi_k95 fz95_0_2_2 [(0, .ref 0), (1, .int x1), (2, .int x2)] [.int x2, .ref 0] rfl ?_
  refine ko_callPI mi_k95.1 (pc := 2) (ls := [(0, .ref 0), (1, .int x1), (2, .int x2)]) (st := [.int x2, .ref 0]) (h := ks i a q r) (i := (.invokevirtual 200, 3, 124, 0, 9, 0, 254)) (mi_k95.2 _ _ (by rfl)) (ft_invS mi_pq124 (by rfl)) (cy := mi_c124) mi_pq124 rfl (kc124_0_m hG.I hG.R x2) (by decide) ?_
  intro vg1 hg1
  rcases hg1 with ⟨eg1, hg1⟩ | ⟨eg1, hg1⟩
  ·
    subst eg1
    have fi_64 : ((0 : Int) ≤ (i 64).toInt) ∧ ((i 64).toInt ≤ 8) := hG.I.1 64
    have z2 : ((0 : Int) ≤ x2.toInt) ∧ (((x2.toInt / 10) < (i 64).toInt) ∧ ((x2.toInt % 10) < (i 64).toInt)) ∧ ((x2.toInt / 10) ≠ (x2.toInt % 10)) := hg1
    refine fo_goS mi_k95 fz95_5_3_12 [.int x1, .ref 0] rfl ?_
    refine ko_callI mi_k95.1 (pc := 12) (ls := [(0, .ref 0), (1, .int x1), (2, .int x2)]) (st := [.int x1, .ref 0]) (h := ks i a q r) (i := (.invokevirtual 144, 3, 129, 0, 9, 0, 208)) (mi_k95.2 _ _ (by rfl)) (ft_invS mi_pq129 (by rfl)) (cy := mi_c129) mi_pq129 rfl (kc129_0 hG.I hG.R x1) (by decide) ?_
    intro vg3 ig3 ag3 qg3 rg3 kg3 hg3
    have hGg3 := kG_call hG kg3 (by decide +kernel)
    refine fo_goL mi_k95 fz95_15_2_17 [(3, .int vg3), (0, .ref 0), (1, .int x1), (2, .int x2)] [.int vg3] rfl ?_
    refine ft_ifS mi_k95 (decide (0 ≤ vg3)) 22 20 [] rfl (fun c => ?_) (fun c => ?_)
    ·
      have c5 : (0 : Int32).toInt ≤ vg3.toInt := kd_le c; clear c
      refine fo_goS mi_k95 fz95_22_4_30 [.ref 1, .ref 49] rfl ?_
      refine ko_callN mi_k95.1 (pc := 30) (ls := [(3, .int vg3), (0, .ref 0), (1, .int x1), (2, .int x2)]) (st := [.ref 1, .ref 49]) (h := ks ig3 ag3 qg3 rg3) (i := (.invokevirtual 147, 3, 59, 0, 9, 0, 211)) (mi_k95.2 _ _ (by rfl)) (ft_invS mi_pq59 (by rfl)) (cy := mi_c59) mi_pq59 rfl (kc59_49_1_m hGg3.I hGg3.R ) (by decide) ?_
      intro ig6 ag6 qg6 rg6 kg6 hg6
      have hGg6 := kG_call hGg3 kg6 (by decide +kernel)
      have s7 : (x2 / 10).toInt = (x2.toInt / 10) := kd_div 10 kn10 (by decide) (oz3 z2.1)
      refine fo_goS mi_k95 fz95_33_7_47 [.int (x2 / 10), .ref 64] rfl ?_
      by_cases w8 : (x2 / 10).toInt = 0
      ·
        refine ko_eq (x1 := (47, [(3, .int vg3), (0, .ref 0), (1, .int x1), (2, .int x2)], [.int 0, .ref 64], (0, 0), ks ig6 ag6 qg6 rg6)) (by rw [(kj_eq w8 (by decide) : (x2 / 10) = 0)]) ?_
        have s9 : (x2 - x2 / 10 * 10).toInt = (x2.toInt % 10) := kd_rem 10 kn10 (by decide) (oz3 z2.1)
        first | refine ft_goS mi_k95 4 52 [.int (x2 - x2 / 10 * 10), .ref 65] (by rfl) ?_ | refine ft_go mi_k95 4 52 [(3, .int vg3), (0, .ref 0), (1, .int x1), (2, .int x2)] [.int (x2 - x2 / 10 * 10), .ref 65] ig6 ag6 qg6 rg6 (by rfl) ?_ | refine ko_steps mi_in95 4 _ (52, [(3, .int vg3), (0, .ref 0), (1, .int x1), (2, .int x2)], [.int (x2 - x2 / 10 * 10), .ref 65], (0, 0), ks ig6 ag6 qg6 rg6) (by rfl) ?_
        refine ko_iald3 mi_k95.1 (n := 8) (c := 8) (ax := (0, 0, 0, 0, 0)) (mi_k95.2 _ _ (by rfl)) (by rfl) (ksG65 _ _ _ _) (hGg6.I.2.1 65) rfl (oz1116_m s9) (oz1117_m fi_64.2 s9 z2.2.1.2) ?_
        exact ft_ret mi_k95 rfl (hP ((ag6 65).getD (x2 - x2 / 10 * 10).toNatClampNeg 0) _ _ _ _ hGg6 trivial)
      by_cases w10 : (x2 / 10).toInt = 1
      ·
        refine ko_eq (x1 := (47, [(3, .int vg3), (0, .ref 0), (1, .int x1), (2, .int x2)], [.int 1, .ref 64], (0, 0), ks ig6 ag6 qg6 rg6)) (by rw [(kj_eq w10 (by decide) : (x2 / 10) = 1)]) ?_
        have s11 : (x2 - x2 / 10 * 10).toInt = (x2.toInt % 10) := kd_rem 10 kn10 (by decide) (oz3 z2.1)
        first | refine ft_goS mi_k95 4 52 [.int (x2 - x2 / 10 * 10), .ref 66] (by rfl) ?_ | refine ft_go mi_k95 4 52 [(3, .int vg3), (0, .ref 0), (1, .int x1), (2, .int x2)] [.int (x2 - x2 / 10 * 10), .ref 66] ig6 ag6 qg6 rg6 (by rfl) ?_ | refine ko_steps mi_in95 4 _ (52, [(3, .int vg3), (0, .ref 0), (1, .int x1), (2, .int x2)], [.int (x2 - x2 / 10 * 10), .ref 66], (0, 0), ks ig6 ag6 qg6 rg6) (by rfl) ?_
        refine ko_iald3 mi_k95.1 (n := 8) (c := 8) (ax := (0, 0, 0, 0, 0)) (mi_k95.2 _ _ (by rfl)) (by rfl) (ksG66 _ _ _ _) (hGg6.I.2.1 66) rfl (oz1116_m s11) (oz1117_m fi_64.2 s11 z2.2.1.2) ?_
        exact ft_ret mi_k95 rfl (hP ((ag6 66).getD (x2 - x2 / 10 * 10).toNatClampNeg 0) _ _ _ _ hGg6 trivial)
      by_cases w12 : (x2 / 10).toInt = 2
      ·
        refine ko_eq (x1 := (47, [(3, .int vg3), (0, .ref 0), (1, .int x1), (2, .int x2)], [.int 2, .ref 64], (0, 0), ks ig6 ag6 qg6 rg6)) (by rw [(kj_eq w12 (by decide) : (x2 / 10) = 2)]) ?_
        have s13 : (x2 - x2 / 10 * 10).toInt = (x2.toInt % 10) := kd_rem 10 kn10 (by decide) (oz3 z2.1)
        first | refine ft_goS mi_k95 4 52 [.int (x2 - x2 / 10 * 10), .ref 67] (by rfl) ?_ | refine ft_go mi_k95 4 52 [(3, .int vg3), (0, .ref 0), (1, .int x1), (2, .int x2)] [.int (x2 - x2 / 10 * 10), .ref 67] ig6 ag6 qg6 rg6 (by rfl) ?_ | refine ko_steps mi_in95 4 _ (52, [(3, .int vg3), (0, .ref 0), (1, .int x1), (2, .int x2)], [.int (x2 - x2 / 10 * 10), .ref 67], (0, 0), ks ig6 ag6 qg6 rg6) (by rfl) ?_
        refine ko_iald3 mi_k95.1 (n := 8) (c := 8) (ax := (0, 0, 0, 0, 0)) (mi_k95.2 _ _ (by rfl)) (by rfl) (ksG67 _ _ _ _) (hGg6.I.2.1 67) rfl (oz1116_m s13) (oz1117_m fi_64.2 s13 z2.2.1.2) ?_
        exact ft_ret mi_k95 rfl (hP ((ag6 67).getD (x2 - x2 / 10 * 10).toNatClampNeg 0) _ _ _ _ hGg6 trivial)
      by_cases w14 : (x2 / 10).toInt = 3
      ·
        refine ko_eq (x1 := (47, [(3, .int vg3), (0, .ref 0), (1, .int x1), (2, .int x2)], [.int 3, .ref 64], (0, 0), ks ig6 ag6 qg6 rg6)) (by rw [(kj_eq w14 (by decide) : (x2 / 10) = 3)]) ?_
        have s15 : (x2 - x2 / 10 * 10).toInt = (x2.toInt % 10) := kd_rem 10 kn10 (by decide) (oz3 z2.1)
        first | refine ft_goS mi_k95 4 52 [.int (x2 - x2 / 10 * 10), .ref 68] (by rfl) ?_ | refine ft_go mi_k95 4 52 [(3, .int vg3), (0, .ref 0), (1, .int x1), (2, .int x2)] [.int (x2 - x2 / 10 * 10), .ref 68] ig6 ag6 qg6 rg6 (by rfl) ?_ | refine ko_steps mi_in95 4 _ (52, [(3, .int vg3), (0, .ref 0), (1, .int x1), (2, .int x2)], [.int (x2 - x2 / 10 * 10), .ref 68], (0, 0), ks ig6 ag6 qg6 rg6) (by rfl) ?_
        refine ko_iald3 mi_k95.1 (n := 8) (c := 8) (ax := (0, 0, 0, 0, 0)) (mi_k95.2 _ _ (by rfl)) (by rfl) (ksG68 _ _ _ _) (hGg6.I.2.1 68) rfl (oz1116_m s15) (oz1117_m fi_64.2 s15 z2.2.1.2) ?_
        exact ft_ret mi_k95 rfl (hP ((ag6 68).getD (x2 - x2 / 10 * 10).toNatClampNeg 0) _ _ _ _ hGg6 trivial)
      by_cases w16 : (x2 / 10).toInt = 4
      ·
        refine ko_eq (x1 := (47, [(3, .int vg3), (0, .ref 0), (1, .int x1), (2, .int x2)], [.int 4, .ref 64], (0, 0), ks ig6 ag6 qg6 rg6)) (by rw [(kj_eq w16 (by decide) : (x2 / 10) = 4)]) ?_
        have s17 : (x2 - x2 / 10 * 10).toInt = (x2.toInt % 10) := kd_rem 10 kn10 (by decide) (oz3 z2.1)
        first | refine ft_goS mi_k95 4 52 [.int (x2 - x2 / 10 * 10), .ref 69] (by rfl) ?_ | refine ft_go mi_k95 4 52 [(3, .int vg3), (0, .ref 0), (1, .int x1), (2, .int x2)] [.int (x2 - x2 / 10 * 10), .ref 69] ig6 ag6 qg6 rg6 (by rfl) ?_ | refine ko_steps mi_in95 4 _ (52, [(3, .int vg3), (0, .ref 0), (1, .int x1), (2, .int x2)], [.int (x2 - x2 / 10 * 10), .ref 69], (0, 0), ks ig6 ag6 qg6 rg6) (by rfl) ?_
        refine ko_iald3 mi_k95.1 (n := 8) (c := 8) (ax := (0, 0, 0, 0, 0)) (mi_k95.2 _ _ (by rfl)) (by rfl) (ksG69 _ _ _ _) (hGg6.I.2.1 69) rfl (oz1116_m s17) (oz1117_m fi_64.2 s17 z2.2.1.2) ?_
        exact ft_ret mi_k95 rfl (hP ((ag6 69).getD (x2 - x2 / 10 * 10).toNatClampNeg 0) _ _ _ _ hGg6 trivial)
      by_cases w18 : (x2 / 10).toInt = 5
      ·
        refine ko_eq (x1 := (47, [(3, .int vg3), (0, .ref 0), (1, .int x1), (2, .int x2)], [.int 5, .ref 64], (0, 0), ks ig6 ag6 qg6 rg6)) (by rw [(kj_eq w18 (by decide) : (x2 / 10) = 5)]) ?_
        have s19 : (x2 - x2 / 10 * 10).toInt = (x2.toInt % 10) := kd_rem 10 kn10 (by decide) (oz3 z2.1)
        first | refine ft_goS mi_k95 4 52 [.int (x2 - x2 / 10 * 10), .ref 70] (by rfl) ?_ | refine ft_go mi_k95 4 52 [(3, .int vg3), (0, .ref 0), (1, .int x1), (2, .int x2)] [.int (x2 - x2 / 10 * 10), .ref 70] ig6 ag6 qg6 rg6 (by rfl) ?_ | refine ko_steps mi_in95 4 _ (52, [(3, .int vg3), (0, .ref 0), (1, .int x1), (2, .int x2)], [.int (x2 - x2 / 10 * 10), .ref 70], (0, 0), ks ig6 ag6 qg6 rg6) (by rfl) ?_
        refine ko_iald3 mi_k95.1 (n := 8) (c := 8) (ax := (0, 0, 0, 0, 0)) (mi_k95.2 _ _ (by rfl)) (by rfl) (ksG70 _ _ _ _) (hGg6.I.2.1 70) rfl (oz1116_m s19) (oz1117_m fi_64.2 s19 z2.2.1.2) ?_
        exact ft_ret mi_k95 rfl (hP ((ag6 70).getD (x2 - x2 / 10 * 10).toNatClampNeg 0) _ _ _ _ hGg6 trivial)
      by_cases w20 : (x2 / 10).toInt = 6
      ·
        refine ko_eq (x1 := (47, [(3, .int vg3), (0, .ref 0), (1, .int x1), (2, .int x2)], [.int 6, .ref 64], (0, 0), ks ig6 ag6 qg6 rg6)) (by rw [(kj_eq w20 (by decide) : (x2 / 10) = 6)]) ?_
        have s21 : (x2 - x2 / 10 * 10).toInt = (x2.toInt % 10) := kd_rem 10 kn10 (by decide) (oz3 z2.1)
        first | refine ft_goS mi_k95 4 52 [.int (x2 - x2 / 10 * 10), .ref 71] (by rfl) ?_ | refine ft_go mi_k95 4 52 [(3, .int vg3), (0, .ref 0), (1, .int x1), (2, .int x2)] [.int (x2 - x2 / 10 * 10), .ref 71] ig6 ag6 qg6 rg6 (by rfl) ?_ | refine ko_steps mi_in95 4 _ (52, [(3, .int vg3), (0, .ref 0), (1, .int x1), (2, .int x2)], [.int (x2 - x2 / 10 * 10), .ref 71], (0, 0), ks ig6 ag6 qg6 rg6) (by rfl) ?_
        refine ko_iald3 mi_k95.1 (n := 8) (c := 8) (ax := (0, 0, 0, 0, 0)) (mi_k95.2 _ _ (by rfl)) (by rfl) (ksG71 _ _ _ _) (hGg6.I.2.1 71) rfl (oz1116_m s21) (oz1117_m fi_64.2 s21 z2.2.1.2) ?_
        exact ft_ret mi_k95 rfl (hP ((ag6 71).getD (x2 - x2 / 10 * 10).toNatClampNeg 0) _ _ _ _ hGg6 trivial)
      by_cases w22 : (x2 / 10).toInt = 7
      ·
        refine ko_eq (x1 := (47, [(3, .int vg3), (0, .ref 0), (1, .int x1), (2, .int x2)], [.int 7, .ref 64], (0, 0), ks ig6 ag6 qg6 rg6)) (by rw [(kj_eq w22 (by decide) : (x2 / 10) = 7)]) ?_
        have s23 : (x2 - x2 / 10 * 10).toInt = (x2.toInt % 10) := kd_rem 10 kn10 (by decide) (oz3 z2.1)
        first | refine ft_goS mi_k95 4 52 [.int (x2 - x2 / 10 * 10), .ref 72] (by rfl) ?_ | refine ft_go mi_k95 4 52 [(3, .int vg3), (0, .ref 0), (1, .int x1), (2, .int x2)] [.int (x2 - x2 / 10 * 10), .ref 72] ig6 ag6 qg6 rg6 (by rfl) ?_ | refine ko_steps mi_in95 4 _ (52, [(3, .int vg3), (0, .ref 0), (1, .int x1), (2, .int x2)], [.int (x2 - x2 / 10 * 10), .ref 72], (0, 0), ks ig6 ag6 qg6 rg6) (by rfl) ?_
        refine ko_iald3 mi_k95.1 (n := 8) (c := 8) (ax := (0, 0, 0, 0, 0)) (mi_k95.2 _ _ (by rfl)) (by rfl) (ksG72 _ _ _ _) (hGg6.I.2.1 72) rfl (oz1116_m s23) (oz1117_m fi_64.2 s23 z2.2.1.2) ?_
        exact ft_ret mi_k95 rfl (hP ((ag6 72).getD (x2 - x2 / 10 * 10).toNatClampNeg 0) _ _ _ _ hGg6 trivial)
      exact (oz1118_m fi_64.2 s7 w10 w12 w14 w16 w18 w20 w22 w8 z2.1 z2.2.1.1 z2.2.1.2).elim
    ·
      have c24 : vg3.toInt < (0 : Int32).toInt := kd_leF c; clear c
      refine fo_goS mi_k95 fz95_20_1_21 [.int vg3] rfl ?_
      exact ft_ret mi_k95 rfl (hP vg3 _ _ _ _ hGg3 trivial)
  ·
    subst eg1
    refine fo_goS mi_k95 fz95_5_2_9 [.int (-1)] rfl ?_
    exact ft_ret mi_k95 rfl (hP (-1) _ _ _ _ hG trivial)
set_option maxRecDepth 100000 in
theorem kc72_49_1_m {i : Nat → Int32} {a : Nat → List Int32} {q : Nat → List Int64} {r : Nat → Nat} (hI : kI i a q) (hr : kr r)  : km 1 72 [.ref 49, .ref 1] (ks i a q r) (kPI (ks i a q r) (fun v => True)) := by
  have hG := kG_self kW0 hI hr
  refine km_ofPI (q := (mi_h72, mi_c72)) rfl (by decide) (Nat.le_of_ble_eq_true rfl) ?_
  intro P hP
  first | refine fo_goL mi_k72 fz72_0_6_8 [(4, .int 0), (3, .int 0), (2, .int (-2)), (0, .ref 49), (1, .ref 1)] [] (by rfl) ?_ | refine fo_goL mi_k72 fz72_49_6_8 [(4, .int 0), (3, .int 0), (2, .int (-2)), (0, .ref 49), (1, .ref 1)] [] (by rfl) ?_ | refine ft_goL mi_k72 6 8 [(4, .int 0), (3, .int 0), (2, .int (-2)), (0, .ref 49), (1, .ref 1)] [] (by rfl) ?_ | refine ft_go mi_k72 6 8 [(4, .int 0), (3, .int 0), (2, .int (-2)), (0, .ref 49), (1, .ref 1)] [] i a q r (by rfl) ?_
  have lp1 : ∀ (nz : Nat) (l4_1 : Int32) (l3_1 : Int32) (l2_1 : Int32), (0 : Int) ≤ l4_1.toInt → (((i 64).toInt - l4_1.toInt)).toNat < nz → ko 1 (mi_h72, mi_c72) P (8, [(4, .int l4_1), (3, .int l3_1), (2, .int l2_1), (0, .ref 49), (1, .ref 1)], [], (0, 0), ks i a q r) := by
    intro nz
    induction nz with
    | zero =>
      intro _ _ _ _ hm
      exact absurd hm (Nat.not_lt_zero _)
    | succ nz ih1 =>
      intro l4_1 l3_1 l2_1 p1_0 hm1
      have fi_64 : ((0 : Int) ≤ (i 64).toInt) ∧ ((i 64).toInt ≤ 8) := hG.I.1 64
      refine fo_goL mi_k72 fz72_8_3_14 [(4, .int l4_1), (3, .int l3_1), (2, .int l2_1), (0, .ref 49), (1, .ref 1)] [.int (i 64), .int l4_1] rfl ?_
      refine ft_ifS mi_k72 (decide ((i 64) ≤ l4_1)) 61 17 [] rfl (fun c => ?_) (fun c => ?_)
      ·
        have c2 : (i 64).toInt ≤ l4_1.toInt := kd_le c; clear c
        refine fo_goS mi_k72 fz72_61_1_62 [.int l2_1] rfl ?_
        exact ft_ret mi_k72 rfl (hP l2_1 trivial)
      ·
        have c3 : l4_1.toInt < (i 64).toInt := kd_leF c; clear c
        refine fo_goS mi_k72 fz72_17_4_26 [.int l4_1, .ref 51] rfl ?_
        refine ko_iald3 mi_k72.1 (n := 8) (c := 8) (ax := (0, 0, 0, 0, 0)) (mi_k72.2 _ _ (by rfl)) (by rfl) (ksG51 _ _ _ _) (hG.I.2.1 51) rfl (oz3 p1_0) (oz1119_m c3 fi_64.2) ?_
        refine fo_goS mi_k72 fz72_27_3_33 [.int l4_1, .ref 2, .int ((a 51).getD l4_1.toNatClampNeg 0)] rfl ?_
        refine ko_iald3 mi_k72.1 (n := 8) (c := 8) (ax := (0, 0, 0, 0, 0)) (mi_k72.2 _ _ (by rfl)) (by rfl) (ksG2 _ _ _ _) (hG.I.2.1 2) rfl (oz3 p1_0) (oz1119_m c3 fi_64.2) ?_
        have b4 : ((-2147483648 : Int) ≤ ((a 51).getD l4_1.toNatClampNeg 0).toInt) ∧ (((a 51).getD l4_1.toNatClampNeg 0).toInt ≤ 2147483647) := kd_bd ((a 51).getD l4_1.toNatClampNeg 0)
        have b5 : ((-2147483648 : Int) ≤ ((a 2).getD l4_1.toNatClampNeg 0).toInt) ∧ (((a 2).getD l4_1.toNatClampNeg 0).toInt ≤ 2147483647) := kd_bd ((a 2).getD l4_1.toNatClampNeg 0)
        refine fo_goL mi_k72 fz72_34_4_40 [(5, .int (((a 51).getD l4_1.toNatClampNeg 0) - ((a 2).getD l4_1.toNatClampNeg 0))), (4, .int l4_1), (3, .int l3_1), (2, .int l2_1), (0, .ref 49), (1, .ref 1)] [.int (-2), .int l2_1] rfl ?_
        refine ft_ifS mi_k72 (l2_1 == (-2)) 49 43 [] rfl (fun c => ?_) (fun c => ?_)
        ·
          have c6 : l2_1.toInt = ((-2) : Int32).toInt := kd_eq c; clear c
          have s7 : (l4_1 + 1).toInt = l4_1.toInt + (1 : Int32).toInt := kd_add (oz12 p1_0 kn1) (oz442 c3 fi_64.2 kn1)
          first | refine fo_goL mi_k72 fz72_0_6_8 [(4, .int (l4_1 + 1)), (3, .int (((a 51).getD l4_1.toNatClampNeg 0) - ((a 2).getD l4_1.toNatClampNeg 0))), (2, .int l4_1), (5, .int (((a 51).getD l4_1.toNatClampNeg 0) - ((a 2).getD l4_1.toNatClampNeg 0))), (0, .ref 49), (1, .ref 1)] [] (by rfl) ?_ | refine fo_goL mi_k72 fz72_49_6_8 [(4, .int (l4_1 + 1)), (3, .int (((a 51).getD l4_1.toNatClampNeg 0) - ((a 2).getD l4_1.toNatClampNeg 0))), (2, .int l4_1), (5, .int (((a 51).getD l4_1.toNatClampNeg 0) - ((a 2).getD l4_1.toNatClampNeg 0))), (0, .ref 49), (1, .ref 1)] [] (by rfl) ?_ | refine ft_goL mi_k72 6 8 [(4, .int (l4_1 + 1)), (3, .int (((a 51).getD l4_1.toNatClampNeg 0) - ((a 2).getD l4_1.toNatClampNeg 0))), (2, .int l4_1), (5, .int (((a 51).getD l4_1.toNatClampNeg 0) - ((a 2).getD l4_1.toNatClampNeg 0))), (0, .ref 49), (1, .ref 1)] [] (by rfl) ?_ | refine ft_go mi_k72 6 8 [(4, .int (l4_1 + 1)), (3, .int (((a 51).getD l4_1.toNatClampNeg 0) - ((a 2).getD l4_1.toNatClampNeg 0))), (2, .int l4_1), (5, .int (((a 51).getD l4_1.toNatClampNeg 0) - ((a 2).getD l4_1.toNatClampNeg 0))), (0, .ref 49), (1, .ref 1)] [] i a q r (by rfl) ?_
          refine ko_perm [(4, .int (l4_1 + 1)), (3, .int (((a 51).getD l4_1.toNatClampNeg 0) - ((a 2).getD l4_1.toNatClampNeg 0))), (2, .int l4_1), (0, .ref 49), (1, .ref 1)] (List.forall_mem_cons.mpr ⟨(List.Mem.head _), (List.forall_mem_cons.mpr ⟨(List.Mem.tail _ (List.Mem.head _)), (List.forall_mem_cons.mpr ⟨(List.Mem.tail _ (List.Mem.tail _ (List.Mem.head _))), (List.forall_mem_cons.mpr ⟨(List.Mem.tail _ (List.Mem.tail _ (List.Mem.tail _ (List.Mem.tail _ (List.Mem.head _))))), (List.forall_mem_cons.mpr ⟨(List.Mem.tail _ (List.Mem.tail _ (List.Mem.tail _ (List.Mem.tail _ (List.Mem.tail _ (List.Mem.head _)))))), (fun _ h => absurd h List.not_mem_nil)⟩)⟩)⟩)⟩)⟩) ?_
          exact ih1 _ _ _ (oz14 p1_0 s7 kn1) (kj_meas (oz44 s7 kn1) (oz45 c3) hm1)
        ·
          have c8 : l2_1.toInt ≠ ((-2) : Int32).toInt := kd_eqF c; clear c
          refine fo_goS mi_k72 fz72_43_2_46 [.int l3_1, .int (((a 51).getD l4_1.toNatClampNeg 0) - ((a 2).getD l4_1.toNatClampNeg 0))] rfl ?_
          refine ft_ifS mi_k72 (decide ((((a 51).getD l4_1.toNatClampNeg 0) - ((a 2).getD l4_1.toNatClampNeg 0)) ≤ l3_1)) 55 49 [] rfl (fun c => ?_) (fun c => ?_)
          ·
            have c9 : (((a 51).getD l4_1.toNatClampNeg 0) - ((a 2).getD l4_1.toNatClampNeg 0)).toInt ≤ l3_1.toInt := kd_le c; clear c
            have s10 : (l4_1 + 1).toInt = l4_1.toInt + (1 : Int32).toInt := kd_add (oz12 p1_0 kn1) (oz442 c3 fi_64.2 kn1)
            first | refine fo_goL mi_k72 fz72_5_2_8 [(4, .int (l4_1 + 1)), (5, .int (((a 51).getD l4_1.toNatClampNeg 0) - ((a 2).getD l4_1.toNatClampNeg 0))), (3, .int l3_1), (2, .int l2_1), (0, .ref 49), (1, .ref 1)] [] (by rfl) ?_ | refine fo_goL mi_k72 fz72_55_2_8 [(4, .int (l4_1 + 1)), (5, .int (((a 51).getD l4_1.toNatClampNeg 0) - ((a 2).getD l4_1.toNatClampNeg 0))), (3, .int l3_1), (2, .int l2_1), (0, .ref 49), (1, .ref 1)] [] (by rfl) ?_
            refine ko_perm [(4, .int (l4_1 + 1)), (3, .int l3_1), (2, .int l2_1), (0, .ref 49), (1, .ref 1)] (List.forall_mem_cons.mpr ⟨(List.Mem.head _), (List.forall_mem_cons.mpr ⟨(List.Mem.tail _ (List.Mem.tail _ (List.Mem.head _))), (List.forall_mem_cons.mpr ⟨(List.Mem.tail _ (List.Mem.tail _ (List.Mem.tail _ (List.Mem.head _)))), (List.forall_mem_cons.mpr ⟨(List.Mem.tail _ (List.Mem.tail _ (List.Mem.tail _ (List.Mem.tail _ (List.Mem.head _))))), (List.forall_mem_cons.mpr ⟨(List.Mem.tail _ (List.Mem.tail _ (List.Mem.tail _ (List.Mem.tail _ (List.Mem.tail _ (List.Mem.head _)))))), (fun _ h => absurd h List.not_mem_nil)⟩)⟩)⟩)⟩)⟩) ?_
            exact ih1 _ _ _ (oz14 p1_0 s10 kn1) (kj_meas (oz44 s10 kn1) (oz45 c3) hm1)
          ·
            have c11 : l3_1.toInt < (((a 51).getD l4_1.toNatClampNeg 0) - ((a 2).getD l4_1.toNatClampNeg 0)).toInt := kd_leF c; clear c
            have s12 : (l4_1 + 1).toInt = l4_1.toInt + (1 : Int32).toInt := kd_add (oz12 p1_0 kn1) (oz442 c3 fi_64.2 kn1)
            first | refine fo_goL mi_k72 fz72_0_6_8 [(4, .int (l4_1 + 1)), (3, .int (((a 51).getD l4_1.toNatClampNeg 0) - ((a 2).getD l4_1.toNatClampNeg 0))), (2, .int l4_1), (5, .int (((a 51).getD l4_1.toNatClampNeg 0) - ((a 2).getD l4_1.toNatClampNeg 0))), (0, .ref 49), (1, .ref 1)] [] (by rfl) ?_ | refine fo_goL mi_k72 fz72_49_6_8 [(4, .int (l4_1 + 1)), (3, .int (((a 51).getD l4_1.toNatClampNeg 0) - ((a 2).getD l4_1.toNatClampNeg 0))), (2, .int l4_1), (5, .int (((a 51).getD l4_1.toNatClampNeg 0) - ((a 2).getD l4_1.toNatClampNeg 0))), (0, .ref 49), (1, .ref 1)] [] (by rfl) ?_ | refine ft_goL mi_k72 6 8 [(4, .int (l4_1 + 1)), (3, .int (((a 51).getD l4_1.toNatClampNeg 0) - ((a 2).getD l4_1.toNatClampNeg 0))), (2, .int l4_1), (5, .int (((a 51).getD l4_1.toNatClampNeg 0) - ((a 2).getD l4_1.toNatClampNeg 0))), (0, .ref 49), (1, .ref 1)] [] (by rfl) ?_ | refine ft_go mi_k72 6 8 [(4, .int (l4_1 + 1)), (3, .int (((a 51).getD l4_1.toNatClampNeg 0) - ((a 2).getD l4_1.toNatClampNeg 0))), (2, .int l4_1), (5, .int (((a 51).getD l4_1.toNatClampNeg 0) - ((a 2).getD l4_1.toNatClampNeg 0))), (0, .ref 49), (1, .ref 1)] [] i a q r (by rfl) ?_
            refine ko_perm [(4, .int (l4_1 + 1)), (3, .int (((a 51).getD l4_1.toNatClampNeg 0) - ((a 2).getD l4_1.toNatClampNeg 0))), (2, .int l4_1), (0, .ref 49), (1, .ref 1)] (List.forall_mem_cons.mpr ⟨(List.Mem.head _), (List.forall_mem_cons.mpr ⟨(List.Mem.tail _ (List.Mem.head _)), (List.forall_mem_cons.mpr ⟨(List.Mem.tail _ (List.Mem.tail _ (List.Mem.head _))), (List.forall_mem_cons.mpr ⟨(List.Mem.tail _ (List.Mem.tail _ (List.Mem.tail _ (List.Mem.tail _ (List.Mem.head _))))), (List.forall_mem_cons.mpr ⟨(List.Mem.tail _ (List.Mem.tail _ (List.Mem.tail _ (List.Mem.tail _ (List.Mem.tail _ (List.Mem.head _)))))), (fun _ h => absurd h List.not_mem_nil)⟩)⟩)⟩)⟩)⟩) ?_
            exact ih1 _ _ _ (oz14 p1_0 s12 kn1) (kj_meas (oz44 s12 kn1) (oz45 c3) hm1)
  exact lp1 _ _ _ _ (oz46 kn0) (Nat.lt_succ_self _)
def w71_49_m : kW := ([], [81, 82, 83, 84, 85, 86, 87, 88], [], [])
def w71_49_L2_m : kW := ([], [81, 82, 83, 84, 85, 86, 87, 88], [], [])
def w71_49_L64_m : kW := ([], [81, 82, 83, 84, 85, 86, 87, 88], [], [])
def w71_49_L72_m : kW := ([], [81, 82, 83, 84, 85, 86, 87, 88], [], [])
def w71_49_L80_m : kW := ([], [81, 82, 83, 84, 85, 86, 87, 88], [], [])
def w71_49_L10_m : kW := ([], [81, 82, 83, 84, 85, 86, 87, 88], [], [])
set_option maxRecDepth 100000 in
theorem kc71_49_m {i : Nat → Int32} {a : Nat → List Int32} {q : Nat → List Int64} {r : Nat → Nat} (hI : kI i a q) (hr : kr r)  : km 1 71 [.ref 49] (ks i a q r) (kVI w71_49_m i a q r (fun v i1 a1 q1 r1 => True)) := by
  have hG := kG_self w71_49_m hI hr
  refine km_ofI (q := (mi_h71, mi_c71)) rfl (by decide) (Nat.le_of_ble_eq_true rfl) ?_
  intro P hP
  first | refine fo_goL mi_k71 fz71_0_2_2 [(1, .int 0), (0, .ref 49)] [] (by rfl) ?_ | refine fo_goL mi_k71 fz71_56_2_2 [(1, .int 0), (0, .ref 49)] [] (by rfl) ?_
  have lp1 : ∀ (nz : Nat) (i1 : Nat → Int32) (a1 : Nat → List Int32) (q1 : Nat → List Int64) (r1 : Nat → Nat) (l1_1 : Int32), kG w71_49_L2_m i a q r i1 a1 q1 r1 → (0 : Int) ≤ l1_1.toInt → ((8 - l1_1.toInt)).toNat < nz → ko 1 (mi_h71, mi_c71) P (2, [(1, .int l1_1), (0, .ref 49)], [], (0, 0), ks i1 a1 q1 r1) := by
    intro nz
    induction nz with
    | zero =>
      intro _ _ _ _ _ _ _ hm
      exact absurd hm (Nat.not_lt_zero _)
    | succ nz ih1 =>
      intro i1 a1 q1 r1 l1_1 hL1 p1_0 hm1
      refine fo_goL mi_k71 fz71_2_2_5 [(1, .int l1_1), (0, .ref 49)] [.int 8, .int l1_1] rfl ?_
      refine ft_ifS mi_k71 (decide (8 ≤ l1_1)) 62 8 [] rfl (fun c => ?_) (fun c => ?_)
      ·
        have c2 : (8 : Int32).toInt ≤ l1_1.toInt := kd_le c; clear c
        have hG3 := kG_call hG hL1 (by decide +kernel)
        first | refine fo_goL mi_k71 fz71_62_2_64 [(1, .int 0), (0, .ref 49)] [] (by rfl) ?_ | refine fo_goL mi_k71 fz71_134_2_64 [(1, .int 0), (0, .ref 49)] [] (by rfl) ?_
        have lp4 : ∀ (nz : Nat) (i4 : Nat → Int32) (a4 : Nat → List Int32) (q4 : Nat → List Int64) (r4 : Nat → Nat) (l1_4 : Int32), kG w71_49_L64_m i1 a1 q1 r1 i4 a4 q4 r4 → (0 : Int) ≤ l1_4.toInt → ((8 - l1_4.toInt)).toNat < nz → ko 1 (mi_h71, mi_c71) P (64, [(1, .int l1_4), (0, .ref 49)], [], (0, 0), ks i4 a4 q4 r4) := by
          intro nz
          induction nz with
          | zero =>
            intro _ _ _ _ _ _ _ hm
            exact absurd hm (Nat.not_lt_zero _)
          | succ nz ih4 =>
            intro i4 a4 q4 r4 l1_4 hL4 p4_0 hm4
            refine fo_goL mi_k71 fz71_64_2_67 [(1, .int l1_4), (0, .ref 49)] [.int 8, .int l1_4] rfl ?_
            refine ft_ifS mi_k71 (decide (8 ≤ l1_4)) 140 70 [] rfl (fun c => ?_) (fun c => ?_)
            ·
              have c5 : (8 : Int32).toInt ≤ l1_4.toInt := kd_le c; clear c
              have hG6 := kG_call hG3 hL4 (by decide +kernel)
              first | refine fo_goL mi_k71 fz71_140_4_146 [(2, .int 0), (1, .int 1000), (0, .ref 49)] [] (by rfl) ?_ | refine ft_goL mi_k71 4 146 [(2, .int 0), (1, .int 1000), (0, .ref 49)] [] (by rfl) ?_ | refine ft_go mi_k71 4 146 [(2, .int 0), (1, .int 1000), (0, .ref 49)] [] i4 a4 q4 r4 (by rfl) ?_ | refine ko_steps mi_in71 4 _ (146, [(2, .int 0), (1, .int 1000), (0, .ref 49)], [], (0, 0), ks i4 a4 q4 r4) (by rfl) ?_
              have lp7 : ∀ (nz : Nat) (l2_7 : Int32) (l1_7 : Int32), (0 : Int) ≤ l2_7.toInt → ((8 - l2_7.toInt)).toNat < nz → ko 1 (mi_h71, mi_c71) P (146, [(2, .int l2_7), (1, .int l1_7), (0, .ref 49)], [], (0, 0), ks i4 a4 q4 r4) := by
                intro nz
                induction nz with
                | zero =>
                  intro _ _ _ hm
                  exact absurd hm (Nat.not_lt_zero _)
                | succ nz ih7 =>
                  intro l2_7 l1_7 p7_0 hm7
                  refine fo_goL mi_k71 fz71_146_2_149 [(2, .int l2_7), (1, .int l1_7), (0, .ref 49)] [.int 8, .int l2_7] rfl ?_
                  refine ft_ifS mi_k71 (decide (8 ≤ l2_7)) 171 152 [] rfl (fun c => ?_) (fun c => ?_)
                  ·
                    have c8 : (8 : Int32).toInt ≤ l2_7.toInt := kd_le c; clear c
                    refine fo_goS mi_k71 fz71_171_2_175 [.int 1000, .int l1_7] rfl ?_
                    refine ft_ifS mi_k71 (decide (1000 ≤ l1_7)) 182 178 [] rfl (fun c => ?_) (fun c => ?_)
                    ·
                      have c9 : (1000 : Int32).toInt ≤ l1_7.toInt := kd_le c; clear c
                      first | refine fo_goS mi_k71 fz71_179_1_184 [.int (-2)] (by rfl) ?_ | refine fo_goS mi_k71 fz71_182_1_184 [.int (-2)] (by rfl) ?_
                      exact ft_ret mi_k71 rfl (hP (-2) _ _ _ _ hG6 trivial)
                    ·
                      have c10 : l1_7.toInt < (1000 : Int32).toInt := kd_leF c; clear c
                      first | refine fo_goS mi_k71 fz71_178_2_184 [.int l1_7] (by rfl) ?_ | refine ft_goS mi_k71 2 184 [.int l1_7] (by rfl) ?_ | refine ft_go mi_k71 2 184 [(2, .int l2_7), (1, .int l1_7), (0, .ref 49)] [.int l1_7] i4 a4 q4 r4 (by rfl) ?_ | refine ko_steps mi_in71 2 _ (184, [(2, .int l2_7), (1, .int l1_7), (0, .ref 49)], [.int l1_7], (0, 0), ks i4 a4 q4 r4) (by rfl) ?_
                      exact ft_ret mi_k71 rfl (hP l1_7 _ _ _ _ hG6 trivial)
                  ·
                    have c11 : l2_7.toInt < (8 : Int32).toInt := kd_leF c; clear c
                    refine fo_goS mi_k71 fz71_152_4_158 [.int l2_7, .ref 80, .int l1_7] rfl ?_
                    by_cases w12 : l2_7.toInt = 0
                    ·
                      refine ft_alx mi_k71 (pc := 158) (v := 0) (p := 80) (z := 81) (kj_eq w12 (by decide) : l2_7 = 0) (by decide +kernel) (by decide +kernel) ?_
                      refine fo_goS mi_k71 fz71_159_1_160 [.int l2_7, .ref 81, .int l1_7] rfl ?_
                      refine ko_iald3 mi_k71.1 (n := 8) (c := 8) (ax := (0, 0, 0, 0, 0)) (mi_k71.2 _ _ (by rfl)) (by rfl) (ksG81 _ _ _ _) (hG6.I.2.1 81) rfl (oz3 p7_0) (oz936 c11 kn8) ?_
                      have m14 : (((bif decide (((a4 81).getD l2_7.toNatClampNeg 0) < l1_7) then ((a4 81).getD l2_7.toNatClampNeg 0) else l1_7).toInt ≤ l1_7.toInt) ∧ ((bif decide (((a4 81).getD l2_7.toNatClampNeg 0) < l1_7) then ((a4 81).getD l2_7.toNatClampNeg 0) else l1_7).toInt ≤ ((a4 81).getD l2_7.toNatClampNeg 0).toInt)) ∧ ((bif decide (((a4 81).getD l2_7.toNatClampNeg 0) < l1_7) then ((a4 81).getD l2_7.toNatClampNeg 0) else l1_7).toInt = l1_7.toInt ∨ (bif decide (((a4 81).getD l2_7.toNatClampNeg 0) < l1_7) then ((a4 81).getD l2_7.toNatClampNeg 0) else l1_7).toInt = ((a4 81).getD l2_7.toNatClampNeg 0).toInt) := kd_min
                      first | refine ft_goS mi_k71 1 164 [.int (bif decide (((a4 81).getD l2_7.toNatClampNeg 0) < l1_7) then ((a4 81).getD l2_7.toNatClampNeg 0) else l1_7)] (by rfl) ?_ | refine ft_go mi_k71 1 164 [(2, .int l2_7), (1, .int l1_7), (0, .ref 49)] [.int (bif decide (((a4 81).getD l2_7.toNatClampNeg 0) < l1_7) then ((a4 81).getD l2_7.toNatClampNeg 0) else l1_7)] i4 a4 q4 r4 (by rfl) ?_ | refine ko_steps mi_in71 1 _ (164, [(2, .int l2_7), (1, .int l1_7), (0, .ref 49)], [.int (bif decide (((a4 81).getD l2_7.toNatClampNeg 0) < l1_7) then ((a4 81).getD l2_7.toNatClampNeg 0) else l1_7)], (0, 0), ks i4 a4 q4 r4) (by rfl) ?_
                      generalize (bif decide (((a4 81).getD l2_7.toNatClampNeg 0) < l1_7) then ((a4 81).getD l2_7.toNatClampNeg 0) else l1_7) = m13 at m14 ⊢
                      have s15 : (l2_7 + 1).toInt = l2_7.toInt + (1 : Int32).toInt := kd_add (oz12 p7_0 kn1) (oz474 c11 kn8 kn1)
                      first | refine fo_goL mi_k71 fz71_143_3_146 [(2, .int (l2_7 + 1)), (1, .int m13), (0, .ref 49)] [] (by rfl) ?_ | refine fo_goL mi_k71 fz71_164_3_146 [(2, .int (l2_7 + 1)), (1, .int m13), (0, .ref 49)] [] (by rfl) ?_
                      exact ih7 _ _ (oz14 p7_0 s15 kn1) (kj_meas (oz475 s15 kn1) (oz476 c11 kn8) hm7)
                    by_cases w16 : l2_7.toInt = 1
                    ·
                      refine ft_alx mi_k71 (pc := 158) (v := 1) (p := 80) (z := 82) (kj_eq w16 (by decide) : l2_7 = 1) (by decide +kernel) (by decide +kernel) ?_
                      refine fo_goS mi_k71 fz71_159_1_160 [.int l2_7, .ref 82, .int l1_7] rfl ?_
                      refine ko_iald3 mi_k71.1 (n := 8) (c := 8) (ax := (0, 0, 0, 0, 0)) (mi_k71.2 _ _ (by rfl)) (by rfl) (ksG82 _ _ _ _) (hG6.I.2.1 82) rfl (oz246 w16) (oz936 c11 kn8) ?_
                      have m18 : (((bif decide (((a4 82).getD l2_7.toNatClampNeg 0) < l1_7) then ((a4 82).getD l2_7.toNatClampNeg 0) else l1_7).toInt ≤ l1_7.toInt) ∧ ((bif decide (((a4 82).getD l2_7.toNatClampNeg 0) < l1_7) then ((a4 82).getD l2_7.toNatClampNeg 0) else l1_7).toInt ≤ ((a4 82).getD l2_7.toNatClampNeg 0).toInt)) ∧ ((bif decide (((a4 82).getD l2_7.toNatClampNeg 0) < l1_7) then ((a4 82).getD l2_7.toNatClampNeg 0) else l1_7).toInt = l1_7.toInt ∨ (bif decide (((a4 82).getD l2_7.toNatClampNeg 0) < l1_7) then ((a4 82).getD l2_7.toNatClampNeg 0) else l1_7).toInt = ((a4 82).getD l2_7.toNatClampNeg 0).toInt) := kd_min
                      first | refine ft_goS mi_k71 1 164 [.int (bif decide (((a4 82).getD l2_7.toNatClampNeg 0) < l1_7) then ((a4 82).getD l2_7.toNatClampNeg 0) else l1_7)] (by rfl) ?_ | refine ft_go mi_k71 1 164 [(2, .int l2_7), (1, .int l1_7), (0, .ref 49)] [.int (bif decide (((a4 82).getD l2_7.toNatClampNeg 0) < l1_7) then ((a4 82).getD l2_7.toNatClampNeg 0) else l1_7)] i4 a4 q4 r4 (by rfl) ?_ | refine ko_steps mi_in71 1 _ (164, [(2, .int l2_7), (1, .int l1_7), (0, .ref 49)], [.int (bif decide (((a4 82).getD l2_7.toNatClampNeg 0) < l1_7) then ((a4 82).getD l2_7.toNatClampNeg 0) else l1_7)], (0, 0), ks i4 a4 q4 r4) (by rfl) ?_
                      generalize (bif decide (((a4 82).getD l2_7.toNatClampNeg 0) < l1_7) then ((a4 82).getD l2_7.toNatClampNeg 0) else l1_7) = m17 at m18 ⊢
                      have s19 : (l2_7 + 1).toInt = l2_7.toInt + (1 : Int32).toInt := kd_add (oz1120_m w16 kn1) (oz474 c11 kn8 kn1)
                      first | refine fo_goL mi_k71 fz71_143_3_146 [(2, .int (l2_7 + 1)), (1, .int m17), (0, .ref 49)] [] (by rfl) ?_ | refine fo_goL mi_k71 fz71_164_3_146 [(2, .int (l2_7 + 1)), (1, .int m17), (0, .ref 49)] [] (by rfl) ?_
                      exact ih7 _ _ (oz1121_m s19 w16 kn1) (kj_meas (oz475 s19 kn1) (oz476 c11 kn8) hm7)
                    by_cases w20 : l2_7.toInt = 2
                    ·
                      refine ft_alx mi_k71 (pc := 158) (v := 2) (p := 80) (z := 83) (kj_eq w20 (by decide) : l2_7 = 2) (by decide +kernel) (by decide +kernel) ?_
                      refine fo_goS mi_k71 fz71_159_1_160 [.int l2_7, .ref 83, .int l1_7] rfl ?_
                      refine ko_iald3 mi_k71.1 (n := 8) (c := 8) (ax := (0, 0, 0, 0, 0)) (mi_k71.2 _ _ (by rfl)) (by rfl) (ksG83 _ _ _ _) (hG6.I.2.1 83) rfl (oz256 w20) (oz936 c11 kn8) ?_
                      have m22 : (((bif decide (((a4 83).getD l2_7.toNatClampNeg 0) < l1_7) then ((a4 83).getD l2_7.toNatClampNeg 0) else l1_7).toInt ≤ l1_7.toInt) ∧ ((bif decide (((a4 83).getD l2_7.toNatClampNeg 0) < l1_7) then ((a4 83).getD l2_7.toNatClampNeg 0) else l1_7).toInt ≤ ((a4 83).getD l2_7.toNatClampNeg 0).toInt)) ∧ ((bif decide (((a4 83).getD l2_7.toNatClampNeg 0) < l1_7) then ((a4 83).getD l2_7.toNatClampNeg 0) else l1_7).toInt = l1_7.toInt ∨ (bif decide (((a4 83).getD l2_7.toNatClampNeg 0) < l1_7) then ((a4 83).getD l2_7.toNatClampNeg 0) else l1_7).toInt = ((a4 83).getD l2_7.toNatClampNeg 0).toInt) := kd_min
                      first | refine ft_goS mi_k71 1 164 [.int (bif decide (((a4 83).getD l2_7.toNatClampNeg 0) < l1_7) then ((a4 83).getD l2_7.toNatClampNeg 0) else l1_7)] (by rfl) ?_ | refine ft_go mi_k71 1 164 [(2, .int l2_7), (1, .int l1_7), (0, .ref 49)] [.int (bif decide (((a4 83).getD l2_7.toNatClampNeg 0) < l1_7) then ((a4 83).getD l2_7.toNatClampNeg 0) else l1_7)] i4 a4 q4 r4 (by rfl) ?_ | refine ko_steps mi_in71 1 _ (164, [(2, .int l2_7), (1, .int l1_7), (0, .ref 49)], [.int (bif decide (((a4 83).getD l2_7.toNatClampNeg 0) < l1_7) then ((a4 83).getD l2_7.toNatClampNeg 0) else l1_7)], (0, 0), ks i4 a4 q4 r4) (by rfl) ?_
                      generalize (bif decide (((a4 83).getD l2_7.toNatClampNeg 0) < l1_7) then ((a4 83).getD l2_7.toNatClampNeg 0) else l1_7) = m21 at m22 ⊢
                      have s23 : (l2_7 + 1).toInt = l2_7.toInt + (1 : Int32).toInt := kd_add (oz1122_m w20 kn1) (oz474 c11 kn8 kn1)
                      first | refine fo_goL mi_k71 fz71_143_3_146 [(2, .int (l2_7 + 1)), (1, .int m21), (0, .ref 49)] [] (by rfl) ?_ | refine fo_goL mi_k71 fz71_164_3_146 [(2, .int (l2_7 + 1)), (1, .int m21), (0, .ref 49)] [] (by rfl) ?_
                      exact ih7 _ _ (oz1123_m s23 w20 kn1) (kj_meas (oz475 s23 kn1) (oz476 c11 kn8) hm7)
                    by_cases w24 : l2_7.toInt = 3
                    ·
                      refine ft_alx mi_k71 (pc := 158) (v := 3) (p := 80) (z := 84) (kj_eq w24 (by decide) : l2_7 = 3) (by decide +kernel) (by decide +kernel) ?_
                      refine fo_goS mi_k71 fz71_159_1_160 [.int l2_7, .ref 84, .int l1_7] rfl ?_
                      refine ko_iald3 mi_k71.1 (n := 8) (c := 8) (ax := (0, 0, 0, 0, 0)) (mi_k71.2 _ _ (by rfl)) (by rfl) (ksG84 _ _ _ _) (hG6.I.2.1 84) rfl (oz260 w24) (oz936 c11 kn8) ?_
                      have m26 : (((bif decide (((a4 84).getD l2_7.toNatClampNeg 0) < l1_7) then ((a4 84).getD l2_7.toNatClampNeg 0) else l1_7).toInt ≤ l1_7.toInt) ∧ ((bif decide (((a4 84).getD l2_7.toNatClampNeg 0) < l1_7) then ((a4 84).getD l2_7.toNatClampNeg 0) else l1_7).toInt ≤ ((a4 84).getD l2_7.toNatClampNeg 0).toInt)) ∧ ((bif decide (((a4 84).getD l2_7.toNatClampNeg 0) < l1_7) then ((a4 84).getD l2_7.toNatClampNeg 0) else l1_7).toInt = l1_7.toInt ∨ (bif decide (((a4 84).getD l2_7.toNatClampNeg 0) < l1_7) then ((a4 84).getD l2_7.toNatClampNeg 0) else l1_7).toInt = ((a4 84).getD l2_7.toNatClampNeg 0).toInt) := kd_min
                      first | refine ft_goS mi_k71 1 164 [.int (bif decide (((a4 84).getD l2_7.toNatClampNeg 0) < l1_7) then ((a4 84).getD l2_7.toNatClampNeg 0) else l1_7)] (by rfl) ?_ | refine ft_go mi_k71 1 164 [(2, .int l2_7), (1, .int l1_7), (0, .ref 49)] [.int (bif decide (((a4 84).getD l2_7.toNatClampNeg 0) < l1_7) then ((a4 84).getD l2_7.toNatClampNeg 0) else l1_7)] i4 a4 q4 r4 (by rfl) ?_ | refine ko_steps mi_in71 1 _ (164, [(2, .int l2_7), (1, .int l1_7), (0, .ref 49)], [.int (bif decide (((a4 84).getD l2_7.toNatClampNeg 0) < l1_7) then ((a4 84).getD l2_7.toNatClampNeg 0) else l1_7)], (0, 0), ks i4 a4 q4 r4) (by rfl) ?_
                      generalize (bif decide (((a4 84).getD l2_7.toNatClampNeg 0) < l1_7) then ((a4 84).getD l2_7.toNatClampNeg 0) else l1_7) = m25 at m26 ⊢
                      have s27 : (l2_7 + 1).toInt = l2_7.toInt + (1 : Int32).toInt := kd_add (oz1124_m w24 kn1) (oz474 c11 kn8 kn1)
                      first | refine fo_goL mi_k71 fz71_143_3_146 [(2, .int (l2_7 + 1)), (1, .int m25), (0, .ref 49)] [] (by rfl) ?_ | refine fo_goL mi_k71 fz71_164_3_146 [(2, .int (l2_7 + 1)), (1, .int m25), (0, .ref 49)] [] (by rfl) ?_
                      exact ih7 _ _ (oz1125_m s27 w24 kn1) (kj_meas (oz475 s27 kn1) (oz476 c11 kn8) hm7)
                    by_cases w28 : l2_7.toInt = 4
                    ·
                      refine ft_alx mi_k71 (pc := 158) (v := 4) (p := 80) (z := 85) (kj_eq w28 (by decide) : l2_7 = 4) (by decide +kernel) (by decide +kernel) ?_
                      refine fo_goS mi_k71 fz71_159_1_160 [.int l2_7, .ref 85, .int l1_7] rfl ?_
                      refine ko_iald3 mi_k71.1 (n := 8) (c := 8) (ax := (0, 0, 0, 0, 0)) (mi_k71.2 _ _ (by rfl)) (by rfl) (ksG85 _ _ _ _) (hG6.I.2.1 85) rfl (oz262 w28) (oz936 c11 kn8) ?_
                      have m30 : (((bif decide (((a4 85).getD l2_7.toNatClampNeg 0) < l1_7) then ((a4 85).getD l2_7.toNatClampNeg 0) else l1_7).toInt ≤ l1_7.toInt) ∧ ((bif decide (((a4 85).getD l2_7.toNatClampNeg 0) < l1_7) then ((a4 85).getD l2_7.toNatClampNeg 0) else l1_7).toInt ≤ ((a4 85).getD l2_7.toNatClampNeg 0).toInt)) ∧ ((bif decide (((a4 85).getD l2_7.toNatClampNeg 0) < l1_7) then ((a4 85).getD l2_7.toNatClampNeg 0) else l1_7).toInt = l1_7.toInt ∨ (bif decide (((a4 85).getD l2_7.toNatClampNeg 0) < l1_7) then ((a4 85).getD l2_7.toNatClampNeg 0) else l1_7).toInt = ((a4 85).getD l2_7.toNatClampNeg 0).toInt) := kd_min
                      first | refine ft_goS mi_k71 1 164 [.int (bif decide (((a4 85).getD l2_7.toNatClampNeg 0) < l1_7) then ((a4 85).getD l2_7.toNatClampNeg 0) else l1_7)] (by rfl) ?_ | refine ft_go mi_k71 1 164 [(2, .int l2_7), (1, .int l1_7), (0, .ref 49)] [.int (bif decide (((a4 85).getD l2_7.toNatClampNeg 0) < l1_7) then ((a4 85).getD l2_7.toNatClampNeg 0) else l1_7)] i4 a4 q4 r4 (by rfl) ?_ | refine ko_steps mi_in71 1 _ (164, [(2, .int l2_7), (1, .int l1_7), (0, .ref 49)], [.int (bif decide (((a4 85).getD l2_7.toNatClampNeg 0) < l1_7) then ((a4 85).getD l2_7.toNatClampNeg 0) else l1_7)], (0, 0), ks i4 a4 q4 r4) (by rfl) ?_
                      generalize (bif decide (((a4 85).getD l2_7.toNatClampNeg 0) < l1_7) then ((a4 85).getD l2_7.toNatClampNeg 0) else l1_7) = m29 at m30 ⊢
                      have s31 : (l2_7 + 1).toInt = l2_7.toInt + (1 : Int32).toInt := kd_add (oz1126_m w28 kn1) (oz474 c11 kn8 kn1)
                      first | refine fo_goL mi_k71 fz71_143_3_146 [(2, .int (l2_7 + 1)), (1, .int m29), (0, .ref 49)] [] (by rfl) ?_ | refine fo_goL mi_k71 fz71_164_3_146 [(2, .int (l2_7 + 1)), (1, .int m29), (0, .ref 49)] [] (by rfl) ?_
                      exact ih7 _ _ (oz1127_m s31 w28 kn1) (kj_meas (oz475 s31 kn1) (oz476 c11 kn8) hm7)
                    by_cases w32 : l2_7.toInt = 5
                    ·
                      refine ft_alx mi_k71 (pc := 158) (v := 5) (p := 80) (z := 86) (kj_eq w32 (by decide) : l2_7 = 5) (by decide +kernel) (by decide +kernel) ?_
                      refine fo_goS mi_k71 fz71_159_1_160 [.int l2_7, .ref 86, .int l1_7] rfl ?_
                      refine ko_iald3 mi_k71.1 (n := 8) (c := 8) (ax := (0, 0, 0, 0, 0)) (mi_k71.2 _ _ (by rfl)) (by rfl) (ksG86 _ _ _ _) (hG6.I.2.1 86) rfl (oz264 w32) (oz936 c11 kn8) ?_
                      have m34 : (((bif decide (((a4 86).getD l2_7.toNatClampNeg 0) < l1_7) then ((a4 86).getD l2_7.toNatClampNeg 0) else l1_7).toInt ≤ l1_7.toInt) ∧ ((bif decide (((a4 86).getD l2_7.toNatClampNeg 0) < l1_7) then ((a4 86).getD l2_7.toNatClampNeg 0) else l1_7).toInt ≤ ((a4 86).getD l2_7.toNatClampNeg 0).toInt)) ∧ ((bif decide (((a4 86).getD l2_7.toNatClampNeg 0) < l1_7) then ((a4 86).getD l2_7.toNatClampNeg 0) else l1_7).toInt = l1_7.toInt ∨ (bif decide (((a4 86).getD l2_7.toNatClampNeg 0) < l1_7) then ((a4 86).getD l2_7.toNatClampNeg 0) else l1_7).toInt = ((a4 86).getD l2_7.toNatClampNeg 0).toInt) := kd_min
                      first | refine ft_goS mi_k71 1 164 [.int (bif decide (((a4 86).getD l2_7.toNatClampNeg 0) < l1_7) then ((a4 86).getD l2_7.toNatClampNeg 0) else l1_7)] (by rfl) ?_ | refine ft_go mi_k71 1 164 [(2, .int l2_7), (1, .int l1_7), (0, .ref 49)] [.int (bif decide (((a4 86).getD l2_7.toNatClampNeg 0) < l1_7) then ((a4 86).getD l2_7.toNatClampNeg 0) else l1_7)] i4 a4 q4 r4 (by rfl) ?_ | refine ko_steps mi_in71 1 _ (164, [(2, .int l2_7), (1, .int l1_7), (0, .ref 49)], [.int (bif decide (((a4 86).getD l2_7.toNatClampNeg 0) < l1_7) then ((a4 86).getD l2_7.toNatClampNeg 0) else l1_7)], (0, 0), ks i4 a4 q4 r4) (by rfl) ?_
                      generalize (bif decide (((a4 86).getD l2_7.toNatClampNeg 0) < l1_7) then ((a4 86).getD l2_7.toNatClampNeg 0) else l1_7) = m33 at m34 ⊢
                      have s35 : (l2_7 + 1).toInt = l2_7.toInt + (1 : Int32).toInt := kd_add (oz1128_m w32 kn1) (oz474 c11 kn8 kn1)
                      first | refine fo_goL mi_k71 fz71_143_3_146 [(2, .int (l2_7 + 1)), (1, .int m33), (0, .ref 49)] [] (by rfl) ?_ | refine fo_goL mi_k71 fz71_164_3_146 [(2, .int (l2_7 + 1)), (1, .int m33), (0, .ref 49)] [] (by rfl) ?_
                      exact ih7 _ _ (oz1129_m s35 w32 kn1) (kj_meas (oz475 s35 kn1) (oz476 c11 kn8) hm7)
                    by_cases w36 : l2_7.toInt = 6
                    ·
                      refine ft_alx mi_k71 (pc := 158) (v := 6) (p := 80) (z := 87) (kj_eq w36 (by decide) : l2_7 = 6) (by decide +kernel) (by decide +kernel) ?_
                      refine fo_goS mi_k71 fz71_159_1_160 [.int l2_7, .ref 87, .int l1_7] rfl ?_
                      refine ko_iald3 mi_k71.1 (n := 8) (c := 8) (ax := (0, 0, 0, 0, 0)) (mi_k71.2 _ _ (by rfl)) (by rfl) (ksG87 _ _ _ _) (hG6.I.2.1 87) rfl (oz1130_m w36) (oz936 c11 kn8) ?_
                      have m38 : (((bif decide (((a4 87).getD l2_7.toNatClampNeg 0) < l1_7) then ((a4 87).getD l2_7.toNatClampNeg 0) else l1_7).toInt ≤ l1_7.toInt) ∧ ((bif decide (((a4 87).getD l2_7.toNatClampNeg 0) < l1_7) then ((a4 87).getD l2_7.toNatClampNeg 0) else l1_7).toInt ≤ ((a4 87).getD l2_7.toNatClampNeg 0).toInt)) ∧ ((bif decide (((a4 87).getD l2_7.toNatClampNeg 0) < l1_7) then ((a4 87).getD l2_7.toNatClampNeg 0) else l1_7).toInt = l1_7.toInt ∨ (bif decide (((a4 87).getD l2_7.toNatClampNeg 0) < l1_7) then ((a4 87).getD l2_7.toNatClampNeg 0) else l1_7).toInt = ((a4 87).getD l2_7.toNatClampNeg 0).toInt) := kd_min
                      first | refine ft_goS mi_k71 1 164 [.int (bif decide (((a4 87).getD l2_7.toNatClampNeg 0) < l1_7) then ((a4 87).getD l2_7.toNatClampNeg 0) else l1_7)] (by rfl) ?_ | refine ft_go mi_k71 1 164 [(2, .int l2_7), (1, .int l1_7), (0, .ref 49)] [.int (bif decide (((a4 87).getD l2_7.toNatClampNeg 0) < l1_7) then ((a4 87).getD l2_7.toNatClampNeg 0) else l1_7)] i4 a4 q4 r4 (by rfl) ?_ | refine ko_steps mi_in71 1 _ (164, [(2, .int l2_7), (1, .int l1_7), (0, .ref 49)], [.int (bif decide (((a4 87).getD l2_7.toNatClampNeg 0) < l1_7) then ((a4 87).getD l2_7.toNatClampNeg 0) else l1_7)], (0, 0), ks i4 a4 q4 r4) (by rfl) ?_
                      generalize (bif decide (((a4 87).getD l2_7.toNatClampNeg 0) < l1_7) then ((a4 87).getD l2_7.toNatClampNeg 0) else l1_7) = m37 at m38 ⊢
                      have s39 : (l2_7 + 1).toInt = l2_7.toInt + (1 : Int32).toInt := kd_add (oz1131_m w36 kn1) (oz474 c11 kn8 kn1)
                      first | refine fo_goL mi_k71 fz71_143_3_146 [(2, .int (l2_7 + 1)), (1, .int m37), (0, .ref 49)] [] (by rfl) ?_ | refine fo_goL mi_k71 fz71_164_3_146 [(2, .int (l2_7 + 1)), (1, .int m37), (0, .ref 49)] [] (by rfl) ?_
                      exact ih7 _ _ (oz1132_m s39 w36 kn1) (kj_meas (oz475 s39 kn1) (oz476 c11 kn8) hm7)
                    by_cases w40 : l2_7.toInt = 7
                    ·
                      refine ft_alx mi_k71 (pc := 158) (v := 7) (p := 80) (z := 88) (kj_eq w40 (by decide) : l2_7 = 7) (by decide +kernel) (by decide +kernel) ?_
                      refine fo_goS mi_k71 fz71_159_1_160 [.int l2_7, .ref 88, .int l1_7] rfl ?_
                      refine ko_iald3 mi_k71.1 (n := 8) (c := 8) (ax := (0, 0, 0, 0, 0)) (mi_k71.2 _ _ (by rfl)) (by rfl) (ksG88 _ _ _ _) (hG6.I.2.1 88) rfl (oz1133_m w40) (oz936 c11 kn8) ?_
                      have m42 : (((bif decide (((a4 88).getD l2_7.toNatClampNeg 0) < l1_7) then ((a4 88).getD l2_7.toNatClampNeg 0) else l1_7).toInt ≤ l1_7.toInt) ∧ ((bif decide (((a4 88).getD l2_7.toNatClampNeg 0) < l1_7) then ((a4 88).getD l2_7.toNatClampNeg 0) else l1_7).toInt ≤ ((a4 88).getD l2_7.toNatClampNeg 0).toInt)) ∧ ((bif decide (((a4 88).getD l2_7.toNatClampNeg 0) < l1_7) then ((a4 88).getD l2_7.toNatClampNeg 0) else l1_7).toInt = l1_7.toInt ∨ (bif decide (((a4 88).getD l2_7.toNatClampNeg 0) < l1_7) then ((a4 88).getD l2_7.toNatClampNeg 0) else l1_7).toInt = ((a4 88).getD l2_7.toNatClampNeg 0).toInt) := kd_min
                      first | refine ft_goS mi_k71 1 164 [.int (bif decide (((a4 88).getD l2_7.toNatClampNeg 0) < l1_7) then ((a4 88).getD l2_7.toNatClampNeg 0) else l1_7)] (by rfl) ?_ | refine ft_go mi_k71 1 164 [(2, .int l2_7), (1, .int l1_7), (0, .ref 49)] [.int (bif decide (((a4 88).getD l2_7.toNatClampNeg 0) < l1_7) then ((a4 88).getD l2_7.toNatClampNeg 0) else l1_7)] i4 a4 q4 r4 (by rfl) ?_ | refine ko_steps mi_in71 1 _ (164, [(2, .int l2_7), (1, .int l1_7), (0, .ref 49)], [.int (bif decide (((a4 88).getD l2_7.toNatClampNeg 0) < l1_7) then ((a4 88).getD l2_7.toNatClampNeg 0) else l1_7)], (0, 0), ks i4 a4 q4 r4) (by rfl) ?_
                      generalize (bif decide (((a4 88).getD l2_7.toNatClampNeg 0) < l1_7) then ((a4 88).getD l2_7.toNatClampNeg 0) else l1_7) = m41 at m42 ⊢
                      have s43 : (l2_7 + 1).toInt = l2_7.toInt + (1 : Int32).toInt := kd_add (oz1134_m w40 kn1) (oz474 c11 kn8 kn1)
                      first | refine fo_goL mi_k71 fz71_143_3_146 [(2, .int (l2_7 + 1)), (1, .int m41), (0, .ref 49)] [] (by rfl) ?_ | refine fo_goL mi_k71 fz71_164_3_146 [(2, .int (l2_7 + 1)), (1, .int m41), (0, .ref 49)] [] (by rfl) ?_
                      exact ih7 _ _ (oz1135_m s43 w40 kn1) (kj_meas (oz475 s43 kn1) (oz476 c11 kn8) hm7)
                    exact (oz1028 c11 p7_0 w12 w16 w20 w24 w28 w32 w36 w40 kn8).elim
              exact lp7 _ _ _ (oz46 kn0) (Nat.lt_succ_self _)
            ·
              have c44 : l1_4.toInt < (8 : Int32).toInt := kd_leF c; clear c
              first | refine fo_goL mi_k71 fz71_70_2_72 [(2, .int 0), (1, .int l1_4), (0, .ref 49)] [] (by rfl) ?_ | refine fo_goL mi_k71 fz71_128_2_72 [(2, .int 0), (1, .int l1_4), (0, .ref 49)] [] (by rfl) ?_
              have lp45 : ∀ (nz : Nat) (i45 : Nat → Int32) (a45 : Nat → List Int32) (q45 : Nat → List Int64) (r45 : Nat → Nat) (l2_45 : Int32), kG w71_49_L72_m i4 a4 q4 r4 i45 a45 q45 r45 → ((0 : Int) ≤ l1_4.toInt) ∧ (l1_4.toInt ≤ 7) → (0 : Int) ≤ l2_45.toInt → ((8 - l2_45.toInt)).toNat < nz → ko 1 (mi_h71, mi_c71) P (72, [(2, .int l2_45), (1, .int l1_4), (0, .ref 49)], [], (0, 0), ks i45 a45 q45 r45) := by
                intro nz
                induction nz with
                | zero =>
                  intro _ _ _ _ _ _ _ _ hm
                  exact absurd hm (Nat.not_lt_zero _)
                | succ nz ih45 =>
                  intro i45 a45 q45 r45 l2_45 hL45 p45_0 p45_1 hm45
                  refine fo_goL mi_k71 fz71_72_2_75 [(2, .int l2_45), (1, .int l1_4), (0, .ref 49)] [.int 8, .int l2_45] rfl ?_
                  refine ft_ifS mi_k71 (decide (8 ≤ l2_45)) 134 78 [] rfl (fun c => ?_) (fun c => ?_)
                  ·
                    have c46 : (8 : Int32).toInt ≤ l2_45.toInt := kd_le c; clear c
                    have hG47 := kG_call hL4 hL45 (by decide +kernel)
                    have s48 : (l1_4 + 1).toInt = l1_4.toInt + (1 : Int32).toInt := kd_add (oz12 p4_0 kn1) (oz474 c44 kn8 kn1)
                    first | refine fo_goL mi_k71 fz71_62_2_64 [(1, .int (l1_4 + 1)), (2, .int l2_45), (0, .ref 49)] [] (by rfl) ?_ | refine fo_goL mi_k71 fz71_134_2_64 [(1, .int (l1_4 + 1)), (2, .int l2_45), (0, .ref 49)] [] (by rfl) ?_
                    refine ko_perm [(1, .int (l1_4 + 1)), (0, .ref 49)] (List.forall_mem_cons.mpr ⟨(List.Mem.head _), (List.forall_mem_cons.mpr ⟨(List.Mem.tail _ (List.Mem.tail _ (List.Mem.head _))), (fun _ h => absurd h List.not_mem_nil)⟩)⟩) ?_
                    exact ih4 _ _ _ _ _ hG47 (oz14 p4_0 s48 kn1) (kj_meas (oz475 s48 kn1) (oz476 c44 kn8) hm4)
                  ·
                    have c49 : l2_45.toInt < (8 : Int32).toInt := kd_leF c; clear c
                    first | refine fo_goL mi_k71 fz71_78_2_80 [(3, .int 0), (2, .int l2_45), (1, .int l1_4), (0, .ref 49)] [] (by rfl) ?_ | refine fo_goL mi_k71 fz71_122_2_80 [(3, .int 0), (2, .int l2_45), (1, .int l1_4), (0, .ref 49)] [] (by rfl) ?_
                    have lp50 : ∀ (nz : Nat) (i50 : Nat → Int32) (a50 : Nat → List Int32) (q50 : Nat → List Int64) (r50 : Nat → Nat) (l3_50 : Int32), kG w71_49_L80_m i45 a45 q45 r45 i50 a50 q50 r50 → ((0 : Int) ≤ l1_4.toInt) ∧ (l1_4.toInt ≤ 7) → ((0 : Int) ≤ l2_45.toInt) ∧ (l2_45.toInt ≤ 7) → (0 : Int) ≤ l3_50.toInt → ((8 - l3_50.toInt)).toNat < nz → ko 1 (mi_h71, mi_c71) P (80, [(3, .int l3_50), (2, .int l2_45), (1, .int l1_4), (0, .ref 49)], [], (0, 0), ks i50 a50 q50 r50) := by
                      intro nz
                      induction nz with
                      | zero =>
                        intro _ _ _ _ _ _ _ _ _ hm
                        exact absurd hm (Nat.not_lt_zero _)
                      | succ nz ih50 =>
                        intro i50 a50 q50 r50 l3_50 hL50 p50_0 p50_1 p50_2 hm50
                        refine fo_goL mi_k71 fz71_80_2_83 [(3, .int l3_50), (2, .int l2_45), (1, .int l1_4), (0, .ref 49)] [.int 8, .int l3_50] rfl ?_
                        refine ft_ifS mi_k71 (decide (8 ≤ l3_50)) 128 86 [] rfl (fun c => ?_) (fun c => ?_)
                        ·
                          have c51 : (8 : Int32).toInt ≤ l3_50.toInt := kd_le c; clear c
                          have hG52 := kG_call hL45 hL50 (by decide +kernel)
                          have s53 : (l2_45 + 1).toInt = l2_45.toInt + (1 : Int32).toInt := kd_add (oz12 p45_1 kn1) (oz474 c49 kn8 kn1)
                          first | refine fo_goL mi_k71 fz71_70_2_72 [(2, .int (l2_45 + 1)), (3, .int l3_50), (1, .int l1_4), (0, .ref 49)] [] (by rfl) ?_ | refine fo_goL mi_k71 fz71_128_2_72 [(2, .int (l2_45 + 1)), (3, .int l3_50), (1, .int l1_4), (0, .ref 49)] [] (by rfl) ?_
                          refine ko_perm [(2, .int (l2_45 + 1)), (1, .int l1_4), (0, .ref 49)] (List.forall_mem_cons.mpr ⟨(List.Mem.head _), (List.forall_mem_cons.mpr ⟨(List.Mem.tail _ (List.Mem.tail _ (List.Mem.head _))), (List.forall_mem_cons.mpr ⟨(List.Mem.tail _ (List.Mem.tail _ (List.Mem.tail _ (List.Mem.head _)))), (fun _ h => absurd h List.not_mem_nil)⟩)⟩)⟩) ?_
                          exact ih45 _ _ _ _ _ hG52 (oz488 c44 p4_0 kn8) (oz14 p45_1 s53 kn1) (kj_meas (oz475 s53 kn1) (oz476 c49 kn8) hm45)
                        ·
                          have c54 : l3_50.toInt < (8 : Int32).toInt := kd_leF c; clear c
                          refine fo_goS mi_k71 fz71_86_3_91 [.int l2_45, .ref 80] rfl ?_
                          by_cases w55 : l2_45.toInt = 0
                          ·
                            refine ft_alx mi_k71 (pc := 91) (v := 0) (p := 80) (z := 81) (kj_eq w55 (by decide) : l2_45 = 0) (by decide +kernel) (by decide +kernel) ?_
                            refine fo_goS mi_k71 fz71_92_4_98 [.int l2_45, .ref 80, .int l3_50, .ref 81] rfl ?_
                            by_cases w56 : l2_45.toInt = 0
                            ·
                              refine ft_alx mi_k71 (pc := 98) (v := 0) (p := 80) (z := 81) (kj_eq w56 (by decide) : l2_45 = 0) (by decide +kernel) (by decide +kernel) ?_
                              refine fo_goS mi_k71 fz71_99_1_100 [.int l3_50, .ref 81, .int l3_50, .ref 81] rfl ?_
                              refine ko_iald3 mi_k71.1 (n := 8) (c := 8) (ax := (0, 0, 0, 0, 0)) (mi_k71.2 _ _ (by rfl)) (by rfl) (ksG81 _ _ _ _) (hL50.I.2.1 81) rfl (oz3 p50_2) (oz936 c54 kn8) ?_
                              refine fo_goS mi_k71 fz71_101_3_106 [.int l2_45, .ref 80, .int ((a50 81).getD l3_50.toNatClampNeg 0), .int l3_50, .ref 81] rfl ?_
                              by_cases w57 : l2_45.toInt = 0
                              ·
                                refine ft_alx mi_k71 (pc := 106) (v := 0) (p := 80) (z := 81) (kj_eq w57 (by decide) : l2_45 = 0) (by decide +kernel) (by decide +kernel) ?_
                                refine fo_goS mi_k71 fz71_107_1_108 [.int l1_4, .ref 81, .int ((a50 81).getD l3_50.toNatClampNeg 0), .int l3_50, .ref 81] rfl ?_
                                refine ko_iald3 mi_k71.1 (n := 8) (c := 8) (ax := (0, 0, 0, 0, 0)) (mi_k71.2 _ _ (by rfl)) (by rfl) (ksG81 _ _ _ _) (hL50.I.2.1 81) rfl (oz3 p4_0) (oz936 c44 kn8) ?_
                                refine fo_goS mi_k71 fz71_109_3_114 [.int l1_4, .ref 80, .int ((a50 81).getD l1_4.toNatClampNeg 0), .int ((a50 81).getD l3_50.toNatClampNeg 0), .int l3_50, .ref 81] rfl ?_
                                by_cases w58 : l1_4.toInt = 0
                                ·
                                  refine ft_alx mi_k71 (pc := 114) (v := 0) (p := 80) (z := 81) (kj_eq w58 (by decide) : l1_4 = 0) (by decide +kernel) (by decide +kernel) ?_
                                  refine fo_goS mi_k71 fz71_115_1_116 [.int l3_50, .ref 81, .int ((a50 81).getD l1_4.toNatClampNeg 0), .int ((a50 81).getD l3_50.toNatClampNeg 0), .int l3_50, .ref 81] rfl ?_
                                  refine ko_iald3 mi_k71.1 (n := 8) (c := 8) (ax := (0, 0, 0, 0, 0)) (mi_k71.2 _ _ (by rfl)) (by rfl) (ksG81 _ _ _ _) (hL50.I.2.1 81) rfl (oz3 p50_2) (oz936 c54 kn8) ?_
                                  have b59 : ((-2147483648 : Int) ≤ ((a50 81).getD l1_4.toNatClampNeg 0).toInt) ∧ (((a50 81).getD l1_4.toNatClampNeg 0).toInt ≤ 2147483647) := kd_bd ((a50 81).getD l1_4.toNatClampNeg 0)
                                  have b60 : ((-2147483648 : Int) ≤ ((a50 81).getD l3_50.toNatClampNeg 0).toInt) ∧ (((a50 81).getD l3_50.toNatClampNeg 0).toInt ≤ 2147483647) := kd_bd ((a50 81).getD l3_50.toNatClampNeg 0)
                                  refine fo_goS mi_k71 fz71_117_1_118 [.int (((a50 81).getD l1_4.toNatClampNeg 0) + ((a50 81).getD l3_50.toNatClampNeg 0)), .int ((a50 81).getD l3_50.toNatClampNeg 0), .int l3_50, .ref 81] rfl ?_
                                  have m62 : (((bif decide ((((a50 81).getD l1_4.toNatClampNeg 0) + ((a50 81).getD l3_50.toNatClampNeg 0)) < ((a50 81).getD l3_50.toNatClampNeg 0)) then (((a50 81).getD l1_4.toNatClampNeg 0) + ((a50 81).getD l3_50.toNatClampNeg 0)) else ((a50 81).getD l3_50.toNatClampNeg 0)).toInt ≤ ((a50 81).getD l3_50.toNatClampNeg 0).toInt) ∧ ((bif decide ((((a50 81).getD l1_4.toNatClampNeg 0) + ((a50 81).getD l3_50.toNatClampNeg 0)) < ((a50 81).getD l3_50.toNatClampNeg 0)) then (((a50 81).getD l1_4.toNatClampNeg 0) + ((a50 81).getD l3_50.toNatClampNeg 0)) else ((a50 81).getD l3_50.toNatClampNeg 0)).toInt ≤ (((a50 81).getD l1_4.toNatClampNeg 0) + ((a50 81).getD l3_50.toNatClampNeg 0)).toInt)) ∧ ((bif decide ((((a50 81).getD l1_4.toNatClampNeg 0) + ((a50 81).getD l3_50.toNatClampNeg 0)) < ((a50 81).getD l3_50.toNatClampNeg 0)) then (((a50 81).getD l1_4.toNatClampNeg 0) + ((a50 81).getD l3_50.toNatClampNeg 0)) else ((a50 81).getD l3_50.toNatClampNeg 0)).toInt = ((a50 81).getD l3_50.toNatClampNeg 0).toInt ∨ (bif decide ((((a50 81).getD l1_4.toNatClampNeg 0) + ((a50 81).getD l3_50.toNatClampNeg 0)) < ((a50 81).getD l3_50.toNatClampNeg 0)) then (((a50 81).getD l1_4.toNatClampNeg 0) + ((a50 81).getD l3_50.toNatClampNeg 0)) else ((a50 81).getD l3_50.toNatClampNeg 0)).toInt = (((a50 81).getD l1_4.toNatClampNeg 0) + ((a50 81).getD l3_50.toNatClampNeg 0)).toInt) := kd_min
                                  first | refine ft_goS mi_k71 1 121 [.int (bif decide ((((a50 81).getD l1_4.toNatClampNeg 0) + ((a50 81).getD l3_50.toNatClampNeg 0)) < ((a50 81).getD l3_50.toNatClampNeg 0)) then (((a50 81).getD l1_4.toNatClampNeg 0) + ((a50 81).getD l3_50.toNatClampNeg 0)) else ((a50 81).getD l3_50.toNatClampNeg 0)), .int l3_50, .ref 81] (by rfl) ?_ | refine ft_go mi_k71 1 121 [(3, .int l3_50), (2, .int l2_45), (1, .int l1_4), (0, .ref 49)] [.int (bif decide ((((a50 81).getD l1_4.toNatClampNeg 0) + ((a50 81).getD l3_50.toNatClampNeg 0)) < ((a50 81).getD l3_50.toNatClampNeg 0)) then (((a50 81).getD l1_4.toNatClampNeg 0) + ((a50 81).getD l3_50.toNatClampNeg 0)) else ((a50 81).getD l3_50.toNatClampNeg 0)), .int l3_50, .ref 81] i50 a50 q50 r50 (by rfl) ?_ | refine ko_steps mi_in71 1 _ (121, [(3, .int l3_50), (2, .int l2_45), (1, .int l1_4), (0, .ref 49)], [.int (bif decide ((((a50 81).getD l1_4.toNatClampNeg 0) + ((a50 81).getD l3_50.toNatClampNeg 0)) < ((a50 81).getD l3_50.toNatClampNeg 0)) then (((a50 81).getD l1_4.toNatClampNeg 0) + ((a50 81).getD l3_50.toNatClampNeg 0)) else ((a50 81).getD l3_50.toNatClampNeg 0)), .int l3_50, .ref 81], (0, 0), ks i50 a50 q50 r50) (by rfl) ?_
                                  generalize (bif decide ((((a50 81).getD l1_4.toNatClampNeg 0) + ((a50 81).getD l3_50.toNatClampNeg 0)) < ((a50 81).getD l3_50.toNatClampNeg 0)) then (((a50 81).getD l1_4.toNatClampNeg 0) + ((a50 81).getD l3_50.toNatClampNeg 0)) else ((a50 81).getD l3_50.toNatClampNeg 0)) = m61 at m62 ⊢
                                  refine ko_iast3 mi_k71.1 (n := 8) (c := 8) (ax := (0, 0, 0, 0, 0)) (mi_k71.2 _ _ (by rfl)) (by rfl) (ksG81 _ _ _ _) (ksA81 _ _ _ _) (hL50.I.2.1 81) rfl (oz3 p50_2) (oz936 c54 kn8) ?_
                                  intro a63 ea63 fa63
                                  have hJ63 := kG_a3 hL50 81 rfl ea63 fa63 (kd_bd _)
                                  have s64 : (l3_50 + 1).toInt = l3_50.toInt + (1 : Int32).toInt := kd_add (oz12 p50_2 kn1) (oz474 c54 kn8 kn1)
                                  first | refine fo_goL mi_k71 fz71_78_2_80 [(3, .int (l3_50 + 1)), (2, .int l2_45), (1, .int l1_4), (0, .ref 49)] [] (by rfl) ?_ | refine fo_goL mi_k71 fz71_122_2_80 [(3, .int (l3_50 + 1)), (2, .int l2_45), (1, .int l1_4), (0, .ref 49)] [] (by rfl) ?_
                                  exact ih50 _ _ _ _ _ hJ63 (oz488 c44 p4_0 kn8) (oz488 c49 p45_1 kn8) (oz14 p50_2 s64 kn1) (kj_meas (oz475 s64 kn1) (oz476 c54 kn8) hm50)
                                by_cases w65 : l1_4.toInt = 1
                                ·
                                  refine ft_alx mi_k71 (pc := 114) (v := 1) (p := 80) (z := 82) (kj_eq w65 (by decide) : l1_4 = 1) (by decide +kernel) (by decide +kernel) ?_
                                  refine fo_goS mi_k71 fz71_115_1_116 [.int l3_50, .ref 82, .int ((a50 81).getD l1_4.toNatClampNeg 0), .int ((a50 81).getD l3_50.toNatClampNeg 0), .int l3_50, .ref 81] rfl ?_
                                  refine ko_iald3 mi_k71.1 (n := 8) (c := 8) (ax := (0, 0, 0, 0, 0)) (mi_k71.2 _ _ (by rfl)) (by rfl) (ksG82 _ _ _ _) (hL50.I.2.1 82) rfl (oz3 p50_2) (oz936 c54 kn8) ?_
                                  have b66 : ((-2147483648 : Int) ≤ ((a50 81).getD l1_4.toNatClampNeg 0).toInt) ∧ (((a50 81).getD l1_4.toNatClampNeg 0).toInt ≤ 2147483647) := kd_bd ((a50 81).getD l1_4.toNatClampNeg 0)
                                  have b67 : ((-2147483648 : Int) ≤ ((a50 82).getD l3_50.toNatClampNeg 0).toInt) ∧ (((a50 82).getD l3_50.toNatClampNeg 0).toInt ≤ 2147483647) := kd_bd ((a50 82).getD l3_50.toNatClampNeg 0)
                                  refine fo_goS mi_k71 fz71_117_1_118 [.int (((a50 81).getD l1_4.toNatClampNeg 0) + ((a50 82).getD l3_50.toNatClampNeg 0)), .int ((a50 81).getD l3_50.toNatClampNeg 0), .int l3_50, .ref 81] rfl ?_
                                  have m69 : (((bif decide ((((a50 81).getD l1_4.toNatClampNeg 0) + ((a50 82).getD l3_50.toNatClampNeg 0)) < ((a50 81).getD l3_50.toNatClampNeg 0)) then (((a50 81).getD l1_4.toNatClampNeg 0) + ((a50 82).getD l3_50.toNatClampNeg 0)) else ((a50 81).getD l3_50.toNatClampNeg 0)).toInt ≤ ((a50 81).getD l3_50.toNatClampNeg 0).toInt) ∧ ((bif decide ((((a50 81).getD l1_4.toNatClampNeg 0) + ((a50 82).getD l3_50.toNatClampNeg 0)) < ((a50 81).getD l3_50.toNatClampNeg 0)) then (((a50 81).getD l1_4.toNatClampNeg 0) + ((a50 82).getD l3_50.toNatClampNeg 0)) else ((a50 81).getD l3_50.toNatClampNeg 0)).toInt ≤ (((a50 81).getD l1_4.toNatClampNeg 0) + ((a50 82).getD l3_50.toNatClampNeg 0)).toInt)) ∧ ((bif decide ((((a50 81).getD l1_4.toNatClampNeg 0) + ((a50 82).getD l3_50.toNatClampNeg 0)) < ((a50 81).getD l3_50.toNatClampNeg 0)) then (((a50 81).getD l1_4.toNatClampNeg 0) + ((a50 82).getD l3_50.toNatClampNeg 0)) else ((a50 81).getD l3_50.toNatClampNeg 0)).toInt = ((a50 81).getD l3_50.toNatClampNeg 0).toInt ∨ (bif decide ((((a50 81).getD l1_4.toNatClampNeg 0) + ((a50 82).getD l3_50.toNatClampNeg 0)) < ((a50 81).getD l3_50.toNatClampNeg 0)) then (((a50 81).getD l1_4.toNatClampNeg 0) + ((a50 82).getD l3_50.toNatClampNeg 0)) else ((a50 81).getD l3_50.toNatClampNeg 0)).toInt = (((a50 81).getD l1_4.toNatClampNeg 0) + ((a50 82).getD l3_50.toNatClampNeg 0)).toInt) := kd_min
                                  first | refine ft_goS mi_k71 1 121 [.int (bif decide ((((a50 81).getD l1_4.toNatClampNeg 0) + ((a50 82).getD l3_50.toNatClampNeg 0)) < ((a50 81).getD l3_50.toNatClampNeg 0)) then (((a50 81).getD l1_4.toNatClampNeg 0) + ((a50 82).getD l3_50.toNatClampNeg 0)) else ((a50 81).getD l3_50.toNatClampNeg 0)), .int l3_50, .ref 81] (by rfl) ?_ | refine ft_go mi_k71 1 121 [(3, .int l3_50), (2, .int l2_45), (1, .int l1_4), (0, .ref 49)] [.int (bif decide ((((a50 81).getD l1_4.toNatClampNeg 0) + ((a50 82).getD l3_50.toNatClampNeg 0)) < ((a50 81).getD l3_50.toNatClampNeg 0)) then (((a50 81).getD l1_4.toNatClampNeg 0) + ((a50 82).getD l3_50.toNatClampNeg 0)) else ((a50 81).getD l3_50.toNatClampNeg 0)), .int l3_50, .ref 81] i50 a50 q50 r50 (by rfl) ?_ | refine ko_steps mi_in71 1 _ (121, [(3, .int l3_50), (2, .int l2_45), (1, .int l1_4), (0, .ref 49)], [.int (bif decide ((((a50 81).getD l1_4.toNatClampNeg 0) + ((a50 82).getD l3_50.toNatClampNeg 0)) < ((a50 81).getD l3_50.toNatClampNeg 0)) then (((a50 81).getD l1_4.toNatClampNeg 0) + ((a50 82).getD l3_50.toNatClampNeg 0)) else ((a50 81).getD l3_50.toNatClampNeg 0)), .int l3_50, .ref 81], (0, 0), ks i50 a50 q50 r50) (by rfl) ?_
                                  generalize (bif decide ((((a50 81).getD l1_4.toNatClampNeg 0) + ((a50 82).getD l3_50.toNatClampNeg 0)) < ((a50 81).getD l3_50.toNatClampNeg 0)) then (((a50 81).getD l1_4.toNatClampNeg 0) + ((a50 82).getD l3_50.toNatClampNeg 0)) else ((a50 81).getD l3_50.toNatClampNeg 0)) = m68 at m69 ⊢
                                  refine ko_iast3 mi_k71.1 (n := 8) (c := 8) (ax := (0, 0, 0, 0, 0)) (mi_k71.2 _ _ (by rfl)) (by rfl) (ksG81 _ _ _ _) (ksA81 _ _ _ _) (hL50.I.2.1 81) rfl (oz3 p50_2) (oz936 c54 kn8) ?_
                                  intro a70 ea70 fa70
                                  have hJ70 := kG_a3 hL50 81 rfl ea70 fa70 (kd_bd _)
                                  have s71 : (l3_50 + 1).toInt = l3_50.toInt + (1 : Int32).toInt := kd_add (oz12 p50_2 kn1) (oz474 c54 kn8 kn1)
                                  first | refine fo_goL mi_k71 fz71_78_2_80 [(3, .int (l3_50 + 1)), (2, .int l2_45), (1, .int l1_4), (0, .ref 49)] [] (by rfl) ?_ | refine fo_goL mi_k71 fz71_122_2_80 [(3, .int (l3_50 + 1)), (2, .int l2_45), (1, .int l1_4), (0, .ref 49)] [] (by rfl) ?_
                                  exact ih50 _ _ _ _ _ hJ70 (oz1021 c44 w65 kn8) (oz488 c49 p45_1 kn8) (oz14 p50_2 s71 kn1) (kj_meas (oz475 s71 kn1) (oz476 c54 kn8) hm50)
                                by_cases w72 : l1_4.toInt = 2
                                ·
                                  refine ft_alx mi_k71 (pc := 114) (v := 2) (p := 80) (z := 83) (kj_eq w72 (by decide) : l1_4 = 2) (by decide +kernel) (by decide +kernel) ?_
                                  refine fo_goS mi_k71 fz71_115_1_116 [.int l3_50, .ref 83, .int ((a50 81).getD l1_4.toNatClampNeg 0), .int ((a50 81).getD l3_50.toNatClampNeg 0), .int l3_50, .ref 81] rfl ?_
                                  refine ko_iald3 mi_k71.1 (n := 8) (c := 8) (ax := (0, 0, 0, 0, 0)) (mi_k71.2 _ _ (by rfl)) (by rfl) (ksG83 _ _ _ _) (hL50.I.2.1 83) rfl (oz3 p50_2) (oz936 c54 kn8) ?_
                                  have b73 : ((-2147483648 : Int) ≤ ((a50 81).getD l1_4.toNatClampNeg 0).toInt) ∧ (((a50 81).getD l1_4.toNatClampNeg 0).toInt ≤ 2147483647) := kd_bd ((a50 81).getD l1_4.toNatClampNeg 0)
                                  have b74 : ((-2147483648 : Int) ≤ ((a50 83).getD l3_50.toNatClampNeg 0).toInt) ∧ (((a50 83).getD l3_50.toNatClampNeg 0).toInt ≤ 2147483647) := kd_bd ((a50 83).getD l3_50.toNatClampNeg 0)
                                  refine fo_goS mi_k71 fz71_117_1_118 [.int (((a50 81).getD l1_4.toNatClampNeg 0) + ((a50 83).getD l3_50.toNatClampNeg 0)), .int ((a50 81).getD l3_50.toNatClampNeg 0), .int l3_50, .ref 81] rfl ?_
                                  have m76 : (((bif decide ((((a50 81).getD l1_4.toNatClampNeg 0) + ((a50 83).getD l3_50.toNatClampNeg 0)) < ((a50 81).getD l3_50.toNatClampNeg 0)) then (((a50 81).getD l1_4.toNatClampNeg 0) + ((a50 83).getD l3_50.toNatClampNeg 0)) else ((a50 81).getD l3_50.toNatClampNeg 0)).toInt ≤ ((a50 81).getD l3_50.toNatClampNeg 0).toInt) ∧ ((bif decide ((((a50 81).getD l1_4.toNatClampNeg 0) + ((a50 83).getD l3_50.toNatClampNeg 0)) < ((a50 81).getD l3_50.toNatClampNeg 0)) then (((a50 81).getD l1_4.toNatClampNeg 0) + ((a50 83).getD l3_50.toNatClampNeg 0)) else ((a50 81).getD l3_50.toNatClampNeg 0)).toInt ≤ (((a50 81).getD l1_4.toNatClampNeg 0) + ((a50 83).getD l3_50.toNatClampNeg 0)).toInt)) ∧ ((bif decide ((((a50 81).getD l1_4.toNatClampNeg 0) + ((a50 83).getD l3_50.toNatClampNeg 0)) < ((a50 81).getD l3_50.toNatClampNeg 0)) then (((a50 81).getD l1_4.toNatClampNeg 0) + ((a50 83).getD l3_50.toNatClampNeg 0)) else ((a50 81).getD l3_50.toNatClampNeg 0)).toInt = ((a50 81).getD l3_50.toNatClampNeg 0).toInt ∨ (bif decide ((((a50 81).getD l1_4.toNatClampNeg 0) + ((a50 83).getD l3_50.toNatClampNeg 0)) < ((a50 81).getD l3_50.toNatClampNeg 0)) then (((a50 81).getD l1_4.toNatClampNeg 0) + ((a50 83).getD l3_50.toNatClampNeg 0)) else ((a50 81).getD l3_50.toNatClampNeg 0)).toInt = (((a50 81).getD l1_4.toNatClampNeg 0) + ((a50 83).getD l3_50.toNatClampNeg 0)).toInt) := kd_min
                                  first | refine ft_goS mi_k71 1 121 [.int (bif decide ((((a50 81).getD l1_4.toNatClampNeg 0) + ((a50 83).getD l3_50.toNatClampNeg 0)) < ((a50 81).getD l3_50.toNatClampNeg 0)) then (((a50 81).getD l1_4.toNatClampNeg 0) + ((a50 83).getD l3_50.toNatClampNeg 0)) else ((a50 81).getD l3_50.toNatClampNeg 0)), .int l3_50, .ref 81] (by rfl) ?_ | refine ft_go mi_k71 1 121 [(3, .int l3_50), (2, .int l2_45), (1, .int l1_4), (0, .ref 49)] [.int (bif decide ((((a50 81).getD l1_4.toNatClampNeg 0) + ((a50 83).getD l3_50.toNatClampNeg 0)) < ((a50 81).getD l3_50.toNatClampNeg 0)) then (((a50 81).getD l1_4.toNatClampNeg 0) + ((a50 83).getD l3_50.toNatClampNeg 0)) else ((a50 81).getD l3_50.toNatClampNeg 0)), .int l3_50, .ref 81] i50 a50 q50 r50 (by rfl) ?_ | refine ko_steps mi_in71 1 _ (121, [(3, .int l3_50), (2, .int l2_45), (1, .int l1_4), (0, .ref 49)], [.int (bif decide ((((a50 81).getD l1_4.toNatClampNeg 0) + ((a50 83).getD l3_50.toNatClampNeg 0)) < ((a50 81).getD l3_50.toNatClampNeg 0)) then (((a50 81).getD l1_4.toNatClampNeg 0) + ((a50 83).getD l3_50.toNatClampNeg 0)) else ((a50 81).getD l3_50.toNatClampNeg 0)), .int l3_50, .ref 81], (0, 0), ks i50 a50 q50 r50) (by rfl) ?_
                                  generalize (bif decide ((((a50 81).getD l1_4.toNatClampNeg 0) + ((a50 83).getD l3_50.toNatClampNeg 0)) < ((a50 81).getD l3_50.toNatClampNeg 0)) then (((a50 81).getD l1_4.toNatClampNeg 0) + ((a50 83).getD l3_50.toNatClampNeg 0)) else ((a50 81).getD l3_50.toNatClampNeg 0)) = m75 at m76 ⊢
                                  refine ko_iast3 mi_k71.1 (n := 8) (c := 8) (ax := (0, 0, 0, 0, 0)) (mi_k71.2 _ _ (by rfl)) (by rfl) (ksG81 _ _ _ _) (ksA81 _ _ _ _) (hL50.I.2.1 81) rfl (oz3 p50_2) (oz936 c54 kn8) ?_
                                  intro a77 ea77 fa77
                                  have hJ77 := kG_a3 hL50 81 rfl ea77 fa77 (kd_bd _)
                                  have s78 : (l3_50 + 1).toInt = l3_50.toInt + (1 : Int32).toInt := kd_add (oz12 p50_2 kn1) (oz474 c54 kn8 kn1)
                                  first | refine fo_goL mi_k71 fz71_78_2_80 [(3, .int (l3_50 + 1)), (2, .int l2_45), (1, .int l1_4), (0, .ref 49)] [] (by rfl) ?_ | refine fo_goL mi_k71 fz71_122_2_80 [(3, .int (l3_50 + 1)), (2, .int l2_45), (1, .int l1_4), (0, .ref 49)] [] (by rfl) ?_
                                  exact ih50 _ _ _ _ _ hJ77 (oz1022 c44 w72 kn8) (oz488 c49 p45_1 kn8) (oz14 p50_2 s78 kn1) (kj_meas (oz475 s78 kn1) (oz476 c54 kn8) hm50)
                                by_cases w79 : l1_4.toInt = 3
                                ·
                                  refine ft_alx mi_k71 (pc := 114) (v := 3) (p := 80) (z := 84) (kj_eq w79 (by decide) : l1_4 = 3) (by decide +kernel) (by decide +kernel) ?_
                                  refine fo_goS mi_k71 fz71_115_1_116 [.int l3_50, .ref 84, .int ((a50 81).getD l1_4.toNatClampNeg 0), .int ((a50 81).getD l3_50.toNatClampNeg 0), .int l3_50, .ref 81] rfl ?_
                                  refine ko_iald3 mi_k71.1 (n := 8) (c := 8) (ax := (0, 0, 0, 0, 0)) (mi_k71.2 _ _ (by rfl)) (by rfl) (ksG84 _ _ _ _) (hL50.I.2.1 84) rfl (oz3 p50_2) (oz936 c54 kn8) ?_
                                  have b80 : ((-2147483648 : Int) ≤ ((a50 81).getD l1_4.toNatClampNeg 0).toInt) ∧ (((a50 81).getD l1_4.toNatClampNeg 0).toInt ≤ 2147483647) := kd_bd ((a50 81).getD l1_4.toNatClampNeg 0)
                                  have b81 : ((-2147483648 : Int) ≤ ((a50 84).getD l3_50.toNatClampNeg 0).toInt) ∧ (((a50 84).getD l3_50.toNatClampNeg 0).toInt ≤ 2147483647) := kd_bd ((a50 84).getD l3_50.toNatClampNeg 0)
                                  refine fo_goS mi_k71 fz71_117_1_118 [.int (((a50 81).getD l1_4.toNatClampNeg 0) + ((a50 84).getD l3_50.toNatClampNeg 0)), .int ((a50 81).getD l3_50.toNatClampNeg 0), .int l3_50, .ref 81] rfl ?_
                                  have m83 : (((bif decide ((((a50 81).getD l1_4.toNatClampNeg 0) + ((a50 84).getD l3_50.toNatClampNeg 0)) < ((a50 81).getD l3_50.toNatClampNeg 0)) then (((a50 81).getD l1_4.toNatClampNeg 0) + ((a50 84).getD l3_50.toNatClampNeg 0)) else ((a50 81).getD l3_50.toNatClampNeg 0)).toInt ≤ ((a50 81).getD l3_50.toNatClampNeg 0).toInt) ∧ ((bif decide ((((a50 81).getD l1_4.toNatClampNeg 0) + ((a50 84).getD l3_50.toNatClampNeg 0)) < ((a50 81).getD l3_50.toNatClampNeg 0)) then (((a50 81).getD l1_4.toNatClampNeg 0) + ((a50 84).getD l3_50.toNatClampNeg 0)) else ((a50 81).getD l3_50.toNatClampNeg 0)).toInt ≤ (((a50 81).getD l1_4.toNatClampNeg 0) + ((a50 84).getD l3_50.toNatClampNeg 0)).toInt)) ∧ ((bif decide ((((a50 81).getD l1_4.toNatClampNeg 0) + ((a50 84).getD l3_50.toNatClampNeg 0)) < ((a50 81).getD l3_50.toNatClampNeg 0)) then (((a50 81).getD l1_4.toNatClampNeg 0) + ((a50 84).getD l3_50.toNatClampNeg 0)) else ((a50 81).getD l3_50.toNatClampNeg 0)).toInt = ((a50 81).getD l3_50.toNatClampNeg 0).toInt ∨ (bif decide ((((a50 81).getD l1_4.toNatClampNeg 0) + ((a50 84).getD l3_50.toNatClampNeg 0)) < ((a50 81).getD l3_50.toNatClampNeg 0)) then (((a50 81).getD l1_4.toNatClampNeg 0) + ((a50 84).getD l3_50.toNatClampNeg 0)) else ((a50 81).getD l3_50.toNatClampNeg 0)).toInt = (((a50 81).getD l1_4.toNatClampNeg 0) + ((a50 84).getD l3_50.toNatClampNeg 0)).toInt) := kd_min
                                  first | refine ft_goS mi_k71 1 121 [.int (bif decide ((((a50 81).getD l1_4.toNatClampNeg 0) + ((a50 84).getD l3_50.toNatClampNeg 0)) < ((a50 81).getD l3_50.toNatClampNeg 0)) then (((a50 81).getD l1_4.toNatClampNeg 0) + ((a50 84).getD l3_50.toNatClampNeg 0)) else ((a50 81).getD l3_50.toNatClampNeg 0)), .int l3_50, .ref 81] (by rfl) ?_ | refine ft_go mi_k71 1 121 [(3, .int l3_50), (2, .int l2_45), (1, .int l1_4), (0, .ref 49)] [.int (bif decide ((((a50 81).getD l1_4.toNatClampNeg 0) + ((a50 84).getD l3_50.toNatClampNeg 0)) < ((a50 81).getD l3_50.toNatClampNeg 0)) then (((a50 81).getD l1_4.toNatClampNeg 0) + ((a50 84).getD l3_50.toNatClampNeg 0)) else ((a50 81).getD l3_50.toNatClampNeg 0)), .int l3_50, .ref 81] i50 a50 q50 r50 (by rfl) ?_ | refine ko_steps mi_in71 1 _ (121, [(3, .int l3_50), (2, .int l2_45), (1, .int l1_4), (0, .ref 49)], [.int (bif decide ((((a50 81).getD l1_4.toNatClampNeg 0) + ((a50 84).getD l3_50.toNatClampNeg 0)) < ((a50 81).getD l3_50.toNatClampNeg 0)) then (((a50 81).getD l1_4.toNatClampNeg 0) + ((a50 84).getD l3_50.toNatClampNeg 0)) else ((a50 81).getD l3_50.toNatClampNeg 0)), .int l3_50, .ref 81], (0, 0), ks i50 a50 q50 r50) (by rfl) ?_
                                  generalize (bif decide ((((a50 81).getD l1_4.toNatClampNeg 0) + ((a50 84).getD l3_50.toNatClampNeg 0)) < ((a50 81).getD l3_50.toNatClampNeg 0)) then (((a50 81).getD l1_4.toNatClampNeg 0) + ((a50 84).getD l3_50.toNatClampNeg 0)) else ((a50 81).getD l3_50.toNatClampNeg 0)) = m82 at m83 ⊢
                                  refine ko_iast3 mi_k71.1 (n := 8) (c := 8) (ax := (0, 0, 0, 0, 0)) (mi_k71.2 _ _ (by rfl)) (by rfl) (ksG81 _ _ _ _) (ksA81 _ _ _ _) (hL50.I.2.1 81) rfl (oz3 p50_2) (oz936 c54 kn8) ?_
                                  intro a84 ea84 fa84
                                  have hJ84 := kG_a3 hL50 81 rfl ea84 fa84 (kd_bd _)
                                  have s85 : (l3_50 + 1).toInt = l3_50.toInt + (1 : Int32).toInt := kd_add (oz12 p50_2 kn1) (oz474 c54 kn8 kn1)
                                  first | refine fo_goL mi_k71 fz71_78_2_80 [(3, .int (l3_50 + 1)), (2, .int l2_45), (1, .int l1_4), (0, .ref 49)] [] (by rfl) ?_ | refine fo_goL mi_k71 fz71_122_2_80 [(3, .int (l3_50 + 1)), (2, .int l2_45), (1, .int l1_4), (0, .ref 49)] [] (by rfl) ?_
                                  exact ih50 _ _ _ _ _ hJ84 (oz1023 c44 w79 kn8) (oz488 c49 p45_1 kn8) (oz14 p50_2 s85 kn1) (kj_meas (oz475 s85 kn1) (oz476 c54 kn8) hm50)
                                by_cases w86 : l1_4.toInt = 4
                                ·
                                  refine ft_alx mi_k71 (pc := 114) (v := 4) (p := 80) (z := 85) (kj_eq w86 (by decide) : l1_4 = 4) (by decide +kernel) (by decide +kernel) ?_
                                  refine fo_goS mi_k71 fz71_115_1_116 [.int l3_50, .ref 85, .int ((a50 81).getD l1_4.toNatClampNeg 0), .int ((a50 81).getD l3_50.toNatClampNeg 0), .int l3_50, .ref 81] rfl ?_
                                  refine ko_iald3 mi_k71.1 (n := 8) (c := 8) (ax := (0, 0, 0, 0, 0)) (mi_k71.2 _ _ (by rfl)) (by rfl) (ksG85 _ _ _ _) (hL50.I.2.1 85) rfl (oz3 p50_2) (oz936 c54 kn8) ?_
                                  have b87 : ((-2147483648 : Int) ≤ ((a50 81).getD l1_4.toNatClampNeg 0).toInt) ∧ (((a50 81).getD l1_4.toNatClampNeg 0).toInt ≤ 2147483647) := kd_bd ((a50 81).getD l1_4.toNatClampNeg 0)
                                  have b88 : ((-2147483648 : Int) ≤ ((a50 85).getD l3_50.toNatClampNeg 0).toInt) ∧ (((a50 85).getD l3_50.toNatClampNeg 0).toInt ≤ 2147483647) := kd_bd ((a50 85).getD l3_50.toNatClampNeg 0)
                                  refine fo_goS mi_k71 fz71_117_1_118 [.int (((a50 81).getD l1_4.toNatClampNeg 0) + ((a50 85).getD l3_50.toNatClampNeg 0)), .int ((a50 81).getD l3_50.toNatClampNeg 0), .int l3_50, .ref 81] rfl ?_
                                  have m90 : (((bif decide ((((a50 81).getD l1_4.toNatClampNeg 0) + ((a50 85).getD l3_50.toNatClampNeg 0)) < ((a50 81).getD l3_50.toNatClampNeg 0)) then (((a50 81).getD l1_4.toNatClampNeg 0) + ((a50 85).getD l3_50.toNatClampNeg 0)) else ((a50 81).getD l3_50.toNatClampNeg 0)).toInt ≤ ((a50 81).getD l3_50.toNatClampNeg 0).toInt) ∧ ((bif decide ((((a50 81).getD l1_4.toNatClampNeg 0) + ((a50 85).getD l3_50.toNatClampNeg 0)) < ((a50 81).getD l3_50.toNatClampNeg 0)) then (((a50 81).getD l1_4.toNatClampNeg 0) + ((a50 85).getD l3_50.toNatClampNeg 0)) else ((a50 81).getD l3_50.toNatClampNeg 0)).toInt ≤ (((a50 81).getD l1_4.toNatClampNeg 0) + ((a50 85).getD l3_50.toNatClampNeg 0)).toInt)) ∧ ((bif decide ((((a50 81).getD l1_4.toNatClampNeg 0) + ((a50 85).getD l3_50.toNatClampNeg 0)) < ((a50 81).getD l3_50.toNatClampNeg 0)) then (((a50 81).getD l1_4.toNatClampNeg 0) + ((a50 85).getD l3_50.toNatClampNeg 0)) else ((a50 81).getD l3_50.toNatClampNeg 0)).toInt = ((a50 81).getD l3_50.toNatClampNeg 0).toInt ∨ (bif decide ((((a50 81).getD l1_4.toNatClampNeg 0) + ((a50 85).getD l3_50.toNatClampNeg 0)) < ((a50 81).getD l3_50.toNatClampNeg 0)) then (((a50 81).getD l1_4.toNatClampNeg 0) + ((a50 85).getD l3_50.toNatClampNeg 0)) else ((a50 81).getD l3_50.toNatClampNeg 0)).toInt = (((a50 81).getD l1_4.toNatClampNeg 0) + ((a50 85).getD l3_50.toNatClampNeg 0)).toInt) := kd_min
                                  first | refine ft_goS mi_k71 1 121 [.int (bif decide ((((a50 81).getD l1_4.toNatClampNeg 0) + ((a50 85).getD l3_50.toNatClampNeg 0)) < ((a50 81).getD l3_50.toNatClampNeg 0)) then (((a50 81).getD l1_4.toNatClampNeg 0) + ((a50 85).getD l3_50.toNatClampNeg 0)) else ((a50 81).getD l3_50.toNatClampNeg 0)), .int l3_50, .ref 81] (by rfl) ?_ | refine ft_go mi_k71 1 121 [(3, .int l3_50), (2, .int l2_45), (1, .int l1_4), (0, .ref 49)] [.int (bif decide ((((a50 81).getD l1_4.toNatClampNeg 0) + ((a50 85).getD l3_50.toNatClampNeg 0)) < ((a50 81).getD l3_50.toNatClampNeg 0)) then (((a50 81).getD l1_4.toNatClampNeg 0) + ((a50 85).getD l3_50.toNatClampNeg 0)) else ((a50 81).getD l3_50.toNatClampNeg 0)), .int l3_50, .ref 81] i50 a50 q50 r50 (by rfl) ?_ | refine ko_steps mi_in71 1 _ (121, [(3, .int l3_50), (2, .int l2_45), (1, .int l1_4), (0, .ref 49)], [.int (bif decide ((((a50 81).getD l1_4.toNatClampNeg 0) + ((a50 85).getD l3_50.toNatClampNeg 0)) < ((a50 81).getD l3_50.toNatClampNeg 0)) then (((a50 81).getD l1_4.toNatClampNeg 0) + ((a50 85).getD l3_50.toNatClampNeg 0)) else ((a50 81).getD l3_50.toNatClampNeg 0)), .int l3_50, .ref 81], (0, 0), ks i50 a50 q50 r50) (by rfl) ?_
                                  generalize (bif decide ((((a50 81).getD l1_4.toNatClampNeg 0) + ((a50 85).getD l3_50.toNatClampNeg 0)) < ((a50 81).getD l3_50.toNatClampNeg 0)) then (((a50 81).getD l1_4.toNatClampNeg 0) + ((a50 85).getD l3_50.toNatClampNeg 0)) else ((a50 81).getD l3_50.toNatClampNeg 0)) = m89 at m90 ⊢
                                  refine ko_iast3 mi_k71.1 (n := 8) (c := 8) (ax := (0, 0, 0, 0, 0)) (mi_k71.2 _ _ (by rfl)) (by rfl) (ksG81 _ _ _ _) (ksA81 _ _ _ _) (hL50.I.2.1 81) rfl (oz3 p50_2) (oz936 c54 kn8) ?_
                                  intro a91 ea91 fa91
                                  have hJ91 := kG_a3 hL50 81 rfl ea91 fa91 (kd_bd _)
                                  have s92 : (l3_50 + 1).toInt = l3_50.toInt + (1 : Int32).toInt := kd_add (oz12 p50_2 kn1) (oz474 c54 kn8 kn1)
                                  first | refine fo_goL mi_k71 fz71_78_2_80 [(3, .int (l3_50 + 1)), (2, .int l2_45), (1, .int l1_4), (0, .ref 49)] [] (by rfl) ?_ | refine fo_goL mi_k71 fz71_122_2_80 [(3, .int (l3_50 + 1)), (2, .int l2_45), (1, .int l1_4), (0, .ref 49)] [] (by rfl) ?_
                                  exact ih50 _ _ _ _ _ hJ91 (oz1024 c44 w86 kn8) (oz488 c49 p45_1 kn8) (oz14 p50_2 s92 kn1) (kj_meas (oz475 s92 kn1) (oz476 c54 kn8) hm50)
                                by_cases w93 : l1_4.toInt = 5
                                ·
                                  refine ft_alx mi_k71 (pc := 114) (v := 5) (p := 80) (z := 86) (kj_eq w93 (by decide) : l1_4 = 5) (by decide +kernel) (by decide +kernel) ?_
                                  refine fo_goS mi_k71 fz71_115_1_116 [.int l3_50, .ref 86, .int ((a50 81).getD l1_4.toNatClampNeg 0), .int ((a50 81).getD l3_50.toNatClampNeg 0), .int l3_50, .ref 81] rfl ?_
                                  refine ko_iald3 mi_k71.1 (n := 8) (c := 8) (ax := (0, 0, 0, 0, 0)) (mi_k71.2 _ _ (by rfl)) (by rfl) (ksG86 _ _ _ _) (hL50.I.2.1 86) rfl (oz3 p50_2) (oz936 c54 kn8) ?_
                                  have b94 : ((-2147483648 : Int) ≤ ((a50 81).getD l1_4.toNatClampNeg 0).toInt) ∧ (((a50 81).getD l1_4.toNatClampNeg 0).toInt ≤ 2147483647) := kd_bd ((a50 81).getD l1_4.toNatClampNeg 0)
                                  have b95 : ((-2147483648 : Int) ≤ ((a50 86).getD l3_50.toNatClampNeg 0).toInt) ∧ (((a50 86).getD l3_50.toNatClampNeg 0).toInt ≤ 2147483647) := kd_bd ((a50 86).getD l3_50.toNatClampNeg 0)
                                  refine fo_goS mi_k71 fz71_117_1_118 [.int (((a50 81).getD l1_4.toNatClampNeg 0) + ((a50 86).getD l3_50.toNatClampNeg 0)), .int ((a50 81).getD l3_50.toNatClampNeg 0), .int l3_50, .ref 81] rfl ?_
                                  have m97 : (((bif decide ((((a50 81).getD l1_4.toNatClampNeg 0) + ((a50 86).getD l3_50.toNatClampNeg 0)) < ((a50 81).getD l3_50.toNatClampNeg 0)) then (((a50 81).getD l1_4.toNatClampNeg 0) + ((a50 86).getD l3_50.toNatClampNeg 0)) else ((a50 81).getD l3_50.toNatClampNeg 0)).toInt ≤ ((a50 81).getD l3_50.toNatClampNeg 0).toInt) ∧ ((bif decide ((((a50 81).getD l1_4.toNatClampNeg 0) + ((a50 86).getD l3_50.toNatClampNeg 0)) < ((a50 81).getD l3_50.toNatClampNeg 0)) then (((a50 81).getD l1_4.toNatClampNeg 0) + ((a50 86).getD l3_50.toNatClampNeg 0)) else ((a50 81).getD l3_50.toNatClampNeg 0)).toInt ≤ (((a50 81).getD l1_4.toNatClampNeg 0) + ((a50 86).getD l3_50.toNatClampNeg 0)).toInt)) ∧ ((bif decide ((((a50 81).getD l1_4.toNatClampNeg 0) + ((a50 86).getD l3_50.toNatClampNeg 0)) < ((a50 81).getD l3_50.toNatClampNeg 0)) then (((a50 81).getD l1_4.toNatClampNeg 0) + ((a50 86).getD l3_50.toNatClampNeg 0)) else ((a50 81).getD l3_50.toNatClampNeg 0)).toInt = ((a50 81).getD l3_50.toNatClampNeg 0).toInt ∨ (bif decide ((((a50 81).getD l1_4.toNatClampNeg 0) + ((a50 86).getD l3_50.toNatClampNeg 0)) < ((a50 81).getD l3_50.toNatClampNeg 0)) then (((a50 81).getD l1_4.toNatClampNeg 0) + ((a50 86).getD l3_50.toNatClampNeg 0)) else ((a50 81).getD l3_50.toNatClampNeg 0)).toInt = (((a50 81).getD l1_4.toNatClampNeg 0) + ((a50 86).getD l3_50.toNatClampNeg 0)).toInt) := kd_min
                                  first | refine ft_goS mi_k71 1 121 [.int (bif decide ((((a50 81).getD l1_4.toNatClampNeg 0) + ((a50 86).getD l3_50.toNatClampNeg 0)) < ((a50 81).getD l3_50.toNatClampNeg 0)) then (((a50 81).getD l1_4.toNatClampNeg 0) + ((a50 86).getD l3_50.toNatClampNeg 0)) else ((a50 81).getD l3_50.toNatClampNeg 0)), .int l3_50, .ref 81] (by rfl) ?_ | refine ft_go mi_k71 1 121 [(3, .int l3_50), (2, .int l2_45), (1, .int l1_4), (0, .ref 49)] [.int (bif decide ((((a50 81).getD l1_4.toNatClampNeg 0) + ((a50 86).getD l3_50.toNatClampNeg 0)) < ((a50 81).getD l3_50.toNatClampNeg 0)) then (((a50 81).getD l1_4.toNatClampNeg 0) + ((a50 86).getD l3_50.toNatClampNeg 0)) else ((a50 81).getD l3_50.toNatClampNeg 0)), .int l3_50, .ref 81] i50 a50 q50 r50 (by rfl) ?_ | refine ko_steps mi_in71 1 _ (121, [(3, .int l3_50), (2, .int l2_45), (1, .int l1_4), (0, .ref 49)], [.int (bif decide ((((a50 81).getD l1_4.toNatClampNeg 0) + ((a50 86).getD l3_50.toNatClampNeg 0)) < ((a50 81).getD l3_50.toNatClampNeg 0)) then (((a50 81).getD l1_4.toNatClampNeg 0) + ((a50 86).getD l3_50.toNatClampNeg 0)) else ((a50 81).getD l3_50.toNatClampNeg 0)), .int l3_50, .ref 81], (0, 0), ks i50 a50 q50 r50) (by rfl) ?_
                                  generalize (bif decide ((((a50 81).getD l1_4.toNatClampNeg 0) + ((a50 86).getD l3_50.toNatClampNeg 0)) < ((a50 81).getD l3_50.toNatClampNeg 0)) then (((a50 81).getD l1_4.toNatClampNeg 0) + ((a50 86).getD l3_50.toNatClampNeg 0)) else ((a50 81).getD l3_50.toNatClampNeg 0)) = m96 at m97 ⊢
                                  refine ko_iast3 mi_k71.1 (n := 8) (c := 8) (ax := (0, 0, 0, 0, 0)) (mi_k71.2 _ _ (by rfl)) (by rfl) (ksG81 _ _ _ _) (ksA81 _ _ _ _) (hL50.I.2.1 81) rfl (oz3 p50_2) (oz936 c54 kn8) ?_
                                  intro a98 ea98 fa98
                                  have hJ98 := kG_a3 hL50 81 rfl ea98 fa98 (kd_bd _)
                                  have s99 : (l3_50 + 1).toInt = l3_50.toInt + (1 : Int32).toInt := kd_add (oz12 p50_2 kn1) (oz474 c54 kn8 kn1)
                                  first | refine fo_goL mi_k71 fz71_78_2_80 [(3, .int (l3_50 + 1)), (2, .int l2_45), (1, .int l1_4), (0, .ref 49)] [] (by rfl) ?_ | refine fo_goL mi_k71 fz71_122_2_80 [(3, .int (l3_50 + 1)), (2, .int l2_45), (1, .int l1_4), (0, .ref 49)] [] (by rfl) ?_
                                  exact ih50 _ _ _ _ _ hJ98 (oz1025 c44 w93 kn8) (oz488 c49 p45_1 kn8) (oz14 p50_2 s99 kn1) (kj_meas (oz475 s99 kn1) (oz476 c54 kn8) hm50)
                                by_cases w100 : l1_4.toInt = 6
                                ·
                                  refine ft_alx mi_k71 (pc := 114) (v := 6) (p := 80) (z := 87) (kj_eq w100 (by decide) : l1_4 = 6) (by decide +kernel) (by decide +kernel) ?_
                                  refine fo_goS mi_k71 fz71_115_1_116 [.int l3_50, .ref 87, .int ((a50 81).getD l1_4.toNatClampNeg 0), .int ((a50 81).getD l3_50.toNatClampNeg 0), .int l3_50, .ref 81] rfl ?_
                                  refine ko_iald3 mi_k71.1 (n := 8) (c := 8) (ax := (0, 0, 0, 0, 0)) (mi_k71.2 _ _ (by rfl)) (by rfl) (ksG87 _ _ _ _) (hL50.I.2.1 87) rfl (oz3 p50_2) (oz936 c54 kn8) ?_
                                  have b101 : ((-2147483648 : Int) ≤ ((a50 81).getD l1_4.toNatClampNeg 0).toInt) ∧ (((a50 81).getD l1_4.toNatClampNeg 0).toInt ≤ 2147483647) := kd_bd ((a50 81).getD l1_4.toNatClampNeg 0)
                                  have b102 : ((-2147483648 : Int) ≤ ((a50 87).getD l3_50.toNatClampNeg 0).toInt) ∧ (((a50 87).getD l3_50.toNatClampNeg 0).toInt ≤ 2147483647) := kd_bd ((a50 87).getD l3_50.toNatClampNeg 0)
                                  refine fo_goS mi_k71 fz71_117_1_118 [.int (((a50 81).getD l1_4.toNatClampNeg 0) + ((a50 87).getD l3_50.toNatClampNeg 0)), .int ((a50 81).getD l3_50.toNatClampNeg 0), .int l3_50, .ref 81] rfl ?_
                                  have m104 : (((bif decide ((((a50 81).getD l1_4.toNatClampNeg 0) + ((a50 87).getD l3_50.toNatClampNeg 0)) < ((a50 81).getD l3_50.toNatClampNeg 0)) then (((a50 81).getD l1_4.toNatClampNeg 0) + ((a50 87).getD l3_50.toNatClampNeg 0)) else ((a50 81).getD l3_50.toNatClampNeg 0)).toInt ≤ ((a50 81).getD l3_50.toNatClampNeg 0).toInt) ∧ ((bif decide ((((a50 81).getD l1_4.toNatClampNeg 0) + ((a50 87).getD l3_50.toNatClampNeg 0)) < ((a50 81).getD l3_50.toNatClampNeg 0)) then (((a50 81).getD l1_4.toNatClampNeg 0) + ((a50 87).getD l3_50.toNatClampNeg 0)) else ((a50 81).getD l3_50.toNatClampNeg 0)).toInt ≤ (((a50 81).getD l1_4.toNatClampNeg 0) + ((a50 87).getD l3_50.toNatClampNeg 0)).toInt)) ∧ ((bif decide ((((a50 81).getD l1_4.toNatClampNeg 0) + ((a50 87).getD l3_50.toNatClampNeg 0)) < ((a50 81).getD l3_50.toNatClampNeg 0)) then (((a50 81).getD l1_4.toNatClampNeg 0) + ((a50 87).getD l3_50.toNatClampNeg 0)) else ((a50 81).getD l3_50.toNatClampNeg 0)).toInt = ((a50 81).getD l3_50.toNatClampNeg 0).toInt ∨ (bif decide ((((a50 81).getD l1_4.toNatClampNeg 0) + ((a50 87).getD l3_50.toNatClampNeg 0)) < ((a50 81).getD l3_50.toNatClampNeg 0)) then (((a50 81).getD l1_4.toNatClampNeg 0) + ((a50 87).getD l3_50.toNatClampNeg 0)) else ((a50 81).getD l3_50.toNatClampNeg 0)).toInt = (((a50 81).getD l1_4.toNatClampNeg 0) + ((a50 87).getD l3_50.toNatClampNeg 0)).toInt) := kd_min
                                  first | refine ft_goS mi_k71 1 121 [.int (bif decide ((((a50 81).getD l1_4.toNatClampNeg 0) + ((a50 87).getD l3_50.toNatClampNeg 0)) < ((a50 81).getD l3_50.toNatClampNeg 0)) then (((a50 81).getD l1_4.toNatClampNeg 0) + ((a50 87).getD l3_50.toNatClampNeg 0)) else ((a50 81).getD l3_50.toNatClampNeg 0)), .int l3_50, .ref 81] (by rfl) ?_ | refine ft_go mi_k71 1 121 [(3, .int l3_50), (2, .int l2_45), (1, .int l1_4), (0, .ref 49)] [.int (bif decide ((((a50 81).getD l1_4.toNatClampNeg 0) + ((a50 87).getD l3_50.toNatClampNeg 0)) < ((a50 81).getD l3_50.toNatClampNeg 0)) then (((a50 81).getD l1_4.toNatClampNeg 0) + ((a50 87).getD l3_50.toNatClampNeg 0)) else ((a50 81).getD l3_50.toNatClampNeg 0)), .int l3_50, .ref 81] i50 a50 q50 r50 (by rfl) ?_ | refine ko_steps mi_in71 1 _ (121, [(3, .int l3_50), (2, .int l2_45), (1, .int l1_4), (0, .ref 49)], [.int (bif decide ((((a50 81).getD l1_4.toNatClampNeg 0) + ((a50 87).getD l3_50.toNatClampNeg 0)) < ((a50 81).getD l3_50.toNatClampNeg 0)) then (((a50 81).getD l1_4.toNatClampNeg 0) + ((a50 87).getD l3_50.toNatClampNeg 0)) else ((a50 81).getD l3_50.toNatClampNeg 0)), .int l3_50, .ref 81], (0, 0), ks i50 a50 q50 r50) (by rfl) ?_
                                  generalize (bif decide ((((a50 81).getD l1_4.toNatClampNeg 0) + ((a50 87).getD l3_50.toNatClampNeg 0)) < ((a50 81).getD l3_50.toNatClampNeg 0)) then (((a50 81).getD l1_4.toNatClampNeg 0) + ((a50 87).getD l3_50.toNatClampNeg 0)) else ((a50 81).getD l3_50.toNatClampNeg 0)) = m103 at m104 ⊢
                                  refine ko_iast3 mi_k71.1 (n := 8) (c := 8) (ax := (0, 0, 0, 0, 0)) (mi_k71.2 _ _ (by rfl)) (by rfl) (ksG81 _ _ _ _) (ksA81 _ _ _ _) (hL50.I.2.1 81) rfl (oz3 p50_2) (oz936 c54 kn8) ?_
                                  intro a105 ea105 fa105
                                  have hJ105 := kG_a3 hL50 81 rfl ea105 fa105 (kd_bd _)
                                  have s106 : (l3_50 + 1).toInt = l3_50.toInt + (1 : Int32).toInt := kd_add (oz12 p50_2 kn1) (oz474 c54 kn8 kn1)
                                  first | refine fo_goL mi_k71 fz71_78_2_80 [(3, .int (l3_50 + 1)), (2, .int l2_45), (1, .int l1_4), (0, .ref 49)] [] (by rfl) ?_ | refine fo_goL mi_k71 fz71_122_2_80 [(3, .int (l3_50 + 1)), (2, .int l2_45), (1, .int l1_4), (0, .ref 49)] [] (by rfl) ?_
                                  exact ih50 _ _ _ _ _ hJ105 (oz1026 c44 w100 kn8) (oz488 c49 p45_1 kn8) (oz14 p50_2 s106 kn1) (kj_meas (oz475 s106 kn1) (oz476 c54 kn8) hm50)
                                by_cases w107 : l1_4.toInt = 7
                                ·
                                  refine ft_alx mi_k71 (pc := 114) (v := 7) (p := 80) (z := 88) (kj_eq w107 (by decide) : l1_4 = 7) (by decide +kernel) (by decide +kernel) ?_
                                  refine fo_goS mi_k71 fz71_115_1_116 [.int l3_50, .ref 88, .int ((a50 81).getD l1_4.toNatClampNeg 0), .int ((a50 81).getD l3_50.toNatClampNeg 0), .int l3_50, .ref 81] rfl ?_
                                  refine ko_iald3 mi_k71.1 (n := 8) (c := 8) (ax := (0, 0, 0, 0, 0)) (mi_k71.2 _ _ (by rfl)) (by rfl) (ksG88 _ _ _ _) (hL50.I.2.1 88) rfl (oz3 p50_2) (oz936 c54 kn8) ?_
                                  have b108 : ((-2147483648 : Int) ≤ ((a50 81).getD l1_4.toNatClampNeg 0).toInt) ∧ (((a50 81).getD l1_4.toNatClampNeg 0).toInt ≤ 2147483647) := kd_bd ((a50 81).getD l1_4.toNatClampNeg 0)
                                  have b109 : ((-2147483648 : Int) ≤ ((a50 88).getD l3_50.toNatClampNeg 0).toInt) ∧ (((a50 88).getD l3_50.toNatClampNeg 0).toInt ≤ 2147483647) := kd_bd ((a50 88).getD l3_50.toNatClampNeg 0)
                                  refine fo_goS mi_k71 fz71_117_1_118 [.int (((a50 81).getD l1_4.toNatClampNeg 0) + ((a50 88).getD l3_50.toNatClampNeg 0)), .int ((a50 81).getD l3_50.toNatClampNeg 0), .int l3_50, .ref 81] rfl ?_
                                  have m111 : (((bif decide ((((a50 81).getD l1_4.toNatClampNeg 0) + ((a50 88).getD l3_50.toNatClampNeg 0)) < ((a50 81).getD l3_50.toNatClampNeg 0)) then (((a50 81).getD l1_4.toNatClampNeg 0) + ((a50 88).getD l3_50.toNatClampNeg 0)) else ((a50 81).getD l3_50.toNatClampNeg 0)).toInt ≤ ((a50 81).getD l3_50.toNatClampNeg 0).toInt) ∧ ((bif decide ((((a50 81).getD l1_4.toNatClampNeg 0) + ((a50 88).getD l3_50.toNatClampNeg 0)) < ((a50 81).getD l3_50.toNatClampNeg 0)) then (((a50 81).getD l1_4.toNatClampNeg 0) + ((a50 88).getD l3_50.toNatClampNeg 0)) else ((a50 81).getD l3_50.toNatClampNeg 0)).toInt ≤ (((a50 81).getD l1_4.toNatClampNeg 0) + ((a50 88).getD l3_50.toNatClampNeg 0)).toInt)) ∧ ((bif decide ((((a50 81).getD l1_4.toNatClampNeg 0) + ((a50 88).getD l3_50.toNatClampNeg 0)) < ((a50 81).getD l3_50.toNatClampNeg 0)) then (((a50 81).getD l1_4.toNatClampNeg 0) + ((a50 88).getD l3_50.toNatClampNeg 0)) else ((a50 81).getD l3_50.toNatClampNeg 0)).toInt = ((a50 81).getD l3_50.toNatClampNeg 0).toInt ∨ (bif decide ((((a50 81).getD l1_4.toNatClampNeg 0) + ((a50 88).getD l3_50.toNatClampNeg 0)) < ((a50 81).getD l3_50.toNatClampNeg 0)) then (((a50 81).getD l1_4.toNatClampNeg 0) + ((a50 88).getD l3_50.toNatClampNeg 0)) else ((a50 81).getD l3_50.toNatClampNeg 0)).toInt = (((a50 81).getD l1_4.toNatClampNeg 0) + ((a50 88).getD l3_50.toNatClampNeg 0)).toInt) := kd_min
                                  first | refine ft_goS mi_k71 1 121 [.int (bif decide ((((a50 81).getD l1_4.toNatClampNeg 0) + ((a50 88).getD l3_50.toNatClampNeg 0)) < ((a50 81).getD l3_50.toNatClampNeg 0)) then (((a50 81).getD l1_4.toNatClampNeg 0) + ((a50 88).getD l3_50.toNatClampNeg 0)) else ((a50 81).getD l3_50.toNatClampNeg 0)), .int l3_50, .ref 81] (by rfl) ?_ | refine ft_go mi_k71 1 121 [(3, .int l3_50), (2, .int l2_45), (1, .int l1_4), (0, .ref 49)] [.int (bif decide ((((a50 81).getD l1_4.toNatClampNeg 0) + ((a50 88).getD l3_50.toNatClampNeg 0)) < ((a50 81).getD l3_50.toNatClampNeg 0)) then (((a50 81).getD l1_4.toNatClampNeg 0) + ((a50 88).getD l3_50.toNatClampNeg 0)) else ((a50 81).getD l3_50.toNatClampNeg 0)), .int l3_50, .ref 81] i50 a50 q50 r50 (by rfl) ?_ | refine ko_steps mi_in71 1 _ (121, [(3, .int l3_50), (2, .int l2_45), (1, .int l1_4), (0, .ref 49)], [.int (bif decide ((((a50 81).getD l1_4.toNatClampNeg 0) + ((a50 88).getD l3_50.toNatClampNeg 0)) < ((a50 81).getD l3_50.toNatClampNeg 0)) then (((a50 81).getD l1_4.toNatClampNeg 0) + ((a50 88).getD l3_50.toNatClampNeg 0)) else ((a50 81).getD l3_50.toNatClampNeg 0)), .int l3_50, .ref 81], (0, 0), ks i50 a50 q50 r50) (by rfl) ?_
                                  generalize (bif decide ((((a50 81).getD l1_4.toNatClampNeg 0) + ((a50 88).getD l3_50.toNatClampNeg 0)) < ((a50 81).getD l3_50.toNatClampNeg 0)) then (((a50 81).getD l1_4.toNatClampNeg 0) + ((a50 88).getD l3_50.toNatClampNeg 0)) else ((a50 81).getD l3_50.toNatClampNeg 0)) = m110 at m111 ⊢
                                  refine ko_iast3 mi_k71.1 (n := 8) (c := 8) (ax := (0, 0, 0, 0, 0)) (mi_k71.2 _ _ (by rfl)) (by rfl) (ksG81 _ _ _ _) (ksA81 _ _ _ _) (hL50.I.2.1 81) rfl (oz3 p50_2) (oz936 c54 kn8) ?_
                                  intro a112 ea112 fa112
                                  have hJ112 := kG_a3 hL50 81 rfl ea112 fa112 (kd_bd _)
                                  have s113 : (l3_50 + 1).toInt = l3_50.toInt + (1 : Int32).toInt := kd_add (oz12 p50_2 kn1) (oz474 c54 kn8 kn1)
                                  first | refine fo_goL mi_k71 fz71_78_2_80 [(3, .int (l3_50 + 1)), (2, .int l2_45), (1, .int l1_4), (0, .ref 49)] [] (by rfl) ?_ | refine fo_goL mi_k71 fz71_122_2_80 [(3, .int (l3_50 + 1)), (2, .int l2_45), (1, .int l1_4), (0, .ref 49)] [] (by rfl) ?_
                                  exact ih50 _ _ _ _ _ hJ112 (oz1027 c44 w107 kn8) (oz488 c49 p45_1 kn8) (oz14 p50_2 s113 kn1) (kj_meas (oz475 s113 kn1) (oz476 c54 kn8) hm50)
                                exact (oz1136_m c44 p4_0 w100 w107 w58 w65 w72 w79 w86 w93 kn8).elim
                              exact (oz1137_m p45_1 w55 w57).elim
                            exact (oz1137_m p45_1 w55 w56).elim
                          by_cases w128 : l2_45.toInt = 1
                          ·
                            refine ft_alx mi_k71 (pc := 91) (v := 1) (p := 80) (z := 82) (kj_eq w128 (by decide) : l2_45 = 1) (by decide +kernel) (by decide +kernel) ?_
                            refine fo_goS mi_k71 fz71_92_4_98 [.int l2_45, .ref 80, .int l3_50, .ref 82] rfl ?_
                            by_cases w130 : l2_45.toInt = 1
                            ·
                              refine ft_alx mi_k71 (pc := 98) (v := 1) (p := 80) (z := 82) (kj_eq w130 (by decide) : l2_45 = 1) (by decide +kernel) (by decide +kernel) ?_
                              refine fo_goS mi_k71 fz71_99_1_100 [.int l3_50, .ref 82, .int l3_50, .ref 82] rfl ?_
                              refine ko_iald3 mi_k71.1 (n := 8) (c := 8) (ax := (0, 0, 0, 0, 0)) (mi_k71.2 _ _ (by rfl)) (by rfl) (ksG82 _ _ _ _) (hL50.I.2.1 82) rfl (oz3 p50_2) (oz936 c54 kn8) ?_
                              refine fo_goS mi_k71 fz71_101_3_106 [.int l2_45, .ref 80, .int ((a50 82).getD l3_50.toNatClampNeg 0), .int l3_50, .ref 82] rfl ?_
                              by_cases w132 : l2_45.toInt = 1
                              ·
                                refine ft_alx mi_k71 (pc := 106) (v := 1) (p := 80) (z := 82) (kj_eq w132 (by decide) : l2_45 = 1) (by decide +kernel) (by decide +kernel) ?_
                                refine fo_goS mi_k71 fz71_107_1_108 [.int l1_4, .ref 82, .int ((a50 82).getD l3_50.toNatClampNeg 0), .int l3_50, .ref 82] rfl ?_
                                refine ko_iald3 mi_k71.1 (n := 8) (c := 8) (ax := (0, 0, 0, 0, 0)) (mi_k71.2 _ _ (by rfl)) (by rfl) (ksG82 _ _ _ _) (hL50.I.2.1 82) rfl (oz3 p4_0) (oz936 c44 kn8) ?_
                                refine fo_goS mi_k71 fz71_109_3_114 [.int l1_4, .ref 80, .int ((a50 82).getD l1_4.toNatClampNeg 0), .int ((a50 82).getD l3_50.toNatClampNeg 0), .int l3_50, .ref 82] rfl ?_
                                by_cases w133 : l1_4.toInt = 0
                                ·
                                  refine ft_alx mi_k71 (pc := 114) (v := 0) (p := 80) (z := 81) (kj_eq w133 (by decide) : l1_4 = 0) (by decide +kernel) (by decide +kernel) ?_
                                  refine fo_goS mi_k71 fz71_115_1_116 [.int l3_50, .ref 81, .int ((a50 82).getD l1_4.toNatClampNeg 0), .int ((a50 82).getD l3_50.toNatClampNeg 0), .int l3_50, .ref 82] rfl ?_
                                  refine ko_iald3 mi_k71.1 (n := 8) (c := 8) (ax := (0, 0, 0, 0, 0)) (mi_k71.2 _ _ (by rfl)) (by rfl) (ksG81 _ _ _ _) (hL50.I.2.1 81) rfl (oz3 p50_2) (oz936 c54 kn8) ?_
                                  have b134 : ((-2147483648 : Int) ≤ ((a50 82).getD l1_4.toNatClampNeg 0).toInt) ∧ (((a50 82).getD l1_4.toNatClampNeg 0).toInt ≤ 2147483647) := kd_bd ((a50 82).getD l1_4.toNatClampNeg 0)
                                  have b135 : ((-2147483648 : Int) ≤ ((a50 81).getD l3_50.toNatClampNeg 0).toInt) ∧ (((a50 81).getD l3_50.toNatClampNeg 0).toInt ≤ 2147483647) := kd_bd ((a50 81).getD l3_50.toNatClampNeg 0)
                                  refine fo_goS mi_k71 fz71_117_1_118 [.int (((a50 82).getD l1_4.toNatClampNeg 0) + ((a50 81).getD l3_50.toNatClampNeg 0)), .int ((a50 82).getD l3_50.toNatClampNeg 0), .int l3_50, .ref 82] rfl ?_
                                  have m137 : (((bif decide ((((a50 82).getD l1_4.toNatClampNeg 0) + ((a50 81).getD l3_50.toNatClampNeg 0)) < ((a50 82).getD l3_50.toNatClampNeg 0)) then (((a50 82).getD l1_4.toNatClampNeg 0) + ((a50 81).getD l3_50.toNatClampNeg 0)) else ((a50 82).getD l3_50.toNatClampNeg 0)).toInt ≤ ((a50 82).getD l3_50.toNatClampNeg 0).toInt) ∧ ((bif decide ((((a50 82).getD l1_4.toNatClampNeg 0) + ((a50 81).getD l3_50.toNatClampNeg 0)) < ((a50 82).getD l3_50.toNatClampNeg 0)) then (((a50 82).getD l1_4.toNatClampNeg 0) + ((a50 81).getD l3_50.toNatClampNeg 0)) else ((a50 82).getD l3_50.toNatClampNeg 0)).toInt ≤ (((a50 82).getD l1_4.toNatClampNeg 0) + ((a50 81).getD l3_50.toNatClampNeg 0)).toInt)) ∧ ((bif decide ((((a50 82).getD l1_4.toNatClampNeg 0) + ((a50 81).getD l3_50.toNatClampNeg 0)) < ((a50 82).getD l3_50.toNatClampNeg 0)) then (((a50 82).getD l1_4.toNatClampNeg 0) + ((a50 81).getD l3_50.toNatClampNeg 0)) else ((a50 82).getD l3_50.toNatClampNeg 0)).toInt = ((a50 82).getD l3_50.toNatClampNeg 0).toInt ∨ (bif decide ((((a50 82).getD l1_4.toNatClampNeg 0) + ((a50 81).getD l3_50.toNatClampNeg 0)) < ((a50 82).getD l3_50.toNatClampNeg 0)) then (((a50 82).getD l1_4.toNatClampNeg 0) + ((a50 81).getD l3_50.toNatClampNeg 0)) else ((a50 82).getD l3_50.toNatClampNeg 0)).toInt = (((a50 82).getD l1_4.toNatClampNeg 0) + ((a50 81).getD l3_50.toNatClampNeg 0)).toInt) := kd_min
                                  first | refine ft_goS mi_k71 1 121 [.int (bif decide ((((a50 82).getD l1_4.toNatClampNeg 0) + ((a50 81).getD l3_50.toNatClampNeg 0)) < ((a50 82).getD l3_50.toNatClampNeg 0)) then (((a50 82).getD l1_4.toNatClampNeg 0) + ((a50 81).getD l3_50.toNatClampNeg 0)) else ((a50 82).getD l3_50.toNatClampNeg 0)), .int l3_50, .ref 82] (by rfl) ?_ | refine ft_go mi_k71 1 121 [(3, .int l3_50), (2, .int l2_45), (1, .int l1_4), (0, .ref 49)] [.int (bif decide ((((a50 82).getD l1_4.toNatClampNeg 0) + ((a50 81).getD l3_50.toNatClampNeg 0)) < ((a50 82).getD l3_50.toNatClampNeg 0)) then (((a50 82).getD l1_4.toNatClampNeg 0) + ((a50 81).getD l3_50.toNatClampNeg 0)) else ((a50 82).getD l3_50.toNatClampNeg 0)), .int l3_50, .ref 82] i50 a50 q50 r50 (by rfl) ?_ | refine ko_steps mi_in71 1 _ (121, [(3, .int l3_50), (2, .int l2_45), (1, .int l1_4), (0, .ref 49)], [.int (bif decide ((((a50 82).getD l1_4.toNatClampNeg 0) + ((a50 81).getD l3_50.toNatClampNeg 0)) < ((a50 82).getD l3_50.toNatClampNeg 0)) then (((a50 82).getD l1_4.toNatClampNeg 0) + ((a50 81).getD l3_50.toNatClampNeg 0)) else ((a50 82).getD l3_50.toNatClampNeg 0)), .int l3_50, .ref 82], (0, 0), ks i50 a50 q50 r50) (by rfl) ?_
                                  generalize (bif decide ((((a50 82).getD l1_4.toNatClampNeg 0) + ((a50 81).getD l3_50.toNatClampNeg 0)) < ((a50 82).getD l3_50.toNatClampNeg 0)) then (((a50 82).getD l1_4.toNatClampNeg 0) + ((a50 81).getD l3_50.toNatClampNeg 0)) else ((a50 82).getD l3_50.toNatClampNeg 0)) = m136 at m137 ⊢
                                  refine ko_iast3 mi_k71.1 (n := 8) (c := 8) (ax := (0, 0, 0, 0, 0)) (mi_k71.2 _ _ (by rfl)) (by rfl) (ksG82 _ _ _ _) (ksA82 _ _ _ _) (hL50.I.2.1 82) rfl (oz3 p50_2) (oz936 c54 kn8) ?_
                                  intro a138 ea138 fa138
                                  have hJ138 := kG_a3 hL50 82 rfl ea138 fa138 (kd_bd _)
                                  have s139 : (l3_50 + 1).toInt = l3_50.toInt + (1 : Int32).toInt := kd_add (oz12 p50_2 kn1) (oz474 c54 kn8 kn1)
                                  first | refine fo_goL mi_k71 fz71_78_2_80 [(3, .int (l3_50 + 1)), (2, .int l2_45), (1, .int l1_4), (0, .ref 49)] [] (by rfl) ?_ | refine fo_goL mi_k71 fz71_122_2_80 [(3, .int (l3_50 + 1)), (2, .int l2_45), (1, .int l1_4), (0, .ref 49)] [] (by rfl) ?_
                                  exact ih50 _ _ _ _ _ hJ138 (oz488 c44 p4_0 kn8) (oz1021 c49 w128 kn8) (oz14 p50_2 s139 kn1) (kj_meas (oz475 s139 kn1) (oz476 c54 kn8) hm50)
                                by_cases w140 : l1_4.toInt = 1
                                ·
                                  refine ft_alx mi_k71 (pc := 114) (v := 1) (p := 80) (z := 82) (kj_eq w140 (by decide) : l1_4 = 1) (by decide +kernel) (by decide +kernel) ?_
                                  refine fo_goS mi_k71 fz71_115_1_116 [.int l3_50, .ref 82, .int ((a50 82).getD l1_4.toNatClampNeg 0), .int ((a50 82).getD l3_50.toNatClampNeg 0), .int l3_50, .ref 82] rfl ?_
                                  refine ko_iald3 mi_k71.1 (n := 8) (c := 8) (ax := (0, 0, 0, 0, 0)) (mi_k71.2 _ _ (by rfl)) (by rfl) (ksG82 _ _ _ _) (hL50.I.2.1 82) rfl (oz3 p50_2) (oz936 c54 kn8) ?_
                                  have b141 : ((-2147483648 : Int) ≤ ((a50 82).getD l1_4.toNatClampNeg 0).toInt) ∧ (((a50 82).getD l1_4.toNatClampNeg 0).toInt ≤ 2147483647) := kd_bd ((a50 82).getD l1_4.toNatClampNeg 0)
                                  have b142 : ((-2147483648 : Int) ≤ ((a50 82).getD l3_50.toNatClampNeg 0).toInt) ∧ (((a50 82).getD l3_50.toNatClampNeg 0).toInt ≤ 2147483647) := kd_bd ((a50 82).getD l3_50.toNatClampNeg 0)
                                  refine fo_goS mi_k71 fz71_117_1_118 [.int (((a50 82).getD l1_4.toNatClampNeg 0) + ((a50 82).getD l3_50.toNatClampNeg 0)), .int ((a50 82).getD l3_50.toNatClampNeg 0), .int l3_50, .ref 82] rfl ?_
                                  have m144 : (((bif decide ((((a50 82).getD l1_4.toNatClampNeg 0) + ((a50 82).getD l3_50.toNatClampNeg 0)) < ((a50 82).getD l3_50.toNatClampNeg 0)) then (((a50 82).getD l1_4.toNatClampNeg 0) + ((a50 82).getD l3_50.toNatClampNeg 0)) else ((a50 82).getD l3_50.toNatClampNeg 0)).toInt ≤ ((a50 82).getD l3_50.toNatClampNeg 0).toInt) ∧ ((bif decide ((((a50 82).getD l1_4.toNatClampNeg 0) + ((a50 82).getD l3_50.toNatClampNeg 0)) < ((a50 82).getD l3_50.toNatClampNeg 0)) then (((a50 82).getD l1_4.toNatClampNeg 0) + ((a50 82).getD l3_50.toNatClampNeg 0)) else ((a50 82).getD l3_50.toNatClampNeg 0)).toInt ≤ (((a50 82).getD l1_4.toNatClampNeg 0) + ((a50 82).getD l3_50.toNatClampNeg 0)).toInt)) ∧ ((bif decide ((((a50 82).getD l1_4.toNatClampNeg 0) + ((a50 82).getD l3_50.toNatClampNeg 0)) < ((a50 82).getD l3_50.toNatClampNeg 0)) then (((a50 82).getD l1_4.toNatClampNeg 0) + ((a50 82).getD l3_50.toNatClampNeg 0)) else ((a50 82).getD l3_50.toNatClampNeg 0)).toInt = ((a50 82).getD l3_50.toNatClampNeg 0).toInt ∨ (bif decide ((((a50 82).getD l1_4.toNatClampNeg 0) + ((a50 82).getD l3_50.toNatClampNeg 0)) < ((a50 82).getD l3_50.toNatClampNeg 0)) then (((a50 82).getD l1_4.toNatClampNeg 0) + ((a50 82).getD l3_50.toNatClampNeg 0)) else ((a50 82).getD l3_50.toNatClampNeg 0)).toInt = (((a50 82).getD l1_4.toNatClampNeg 0) + ((a50 82).getD l3_50.toNatClampNeg 0)).toInt) := kd_min
                                  first | refine ft_goS mi_k71 1 121 [.int (bif decide ((((a50 82).getD l1_4.toNatClampNeg 0) + ((a50 82).getD l3_50.toNatClampNeg 0)) < ((a50 82).getD l3_50.toNatClampNeg 0)) then (((a50 82).getD l1_4.toNatClampNeg 0) + ((a50 82).getD l3_50.toNatClampNeg 0)) else ((a50 82).getD l3_50.toNatClampNeg 0)), .int l3_50, .ref 82] (by rfl) ?_ | refine ft_go mi_k71 1 121 [(3, .int l3_50), (2, .int l2_45), (1, .int l1_4), (0, .ref 49)] [.int (bif decide ((((a50 82).getD l1_4.toNatClampNeg 0) + ((a50 82).getD l3_50.toNatClampNeg 0)) < ((a50 82).getD l3_50.toNatClampNeg 0)) then (((a50 82).getD l1_4.toNatClampNeg 0) + ((a50 82).getD l3_50.toNatClampNeg 0)) else ((a50 82).getD l3_50.toNatClampNeg 0)), .int l3_50, .ref 82] i50 a50 q50 r50 (by rfl) ?_ | refine ko_steps mi_in71 1 _ (121, [(3, .int l3_50), (2, .int l2_45), (1, .int l1_4), (0, .ref 49)], [.int (bif decide ((((a50 82).getD l1_4.toNatClampNeg 0) + ((a50 82).getD l3_50.toNatClampNeg 0)) < ((a50 82).getD l3_50.toNatClampNeg 0)) then (((a50 82).getD l1_4.toNatClampNeg 0) + ((a50 82).getD l3_50.toNatClampNeg 0)) else ((a50 82).getD l3_50.toNatClampNeg 0)), .int l3_50, .ref 82], (0, 0), ks i50 a50 q50 r50) (by rfl) ?_
                                  generalize (bif decide ((((a50 82).getD l1_4.toNatClampNeg 0) + ((a50 82).getD l3_50.toNatClampNeg 0)) < ((a50 82).getD l3_50.toNatClampNeg 0)) then (((a50 82).getD l1_4.toNatClampNeg 0) + ((a50 82).getD l3_50.toNatClampNeg 0)) else ((a50 82).getD l3_50.toNatClampNeg 0)) = m143 at m144 ⊢
                                  refine ko_iast3 mi_k71.1 (n := 8) (c := 8) (ax := (0, 0, 0, 0, 0)) (mi_k71.2 _ _ (by rfl)) (by rfl) (ksG82 _ _ _ _) (ksA82 _ _ _ _) (hL50.I.2.1 82) rfl (oz3 p50_2) (oz936 c54 kn8) ?_
                                  intro a145 ea145 fa145
                                  have hJ145 := kG_a3 hL50 82 rfl ea145 fa145 (kd_bd _)
                                  have s146 : (l3_50 + 1).toInt = l3_50.toInt + (1 : Int32).toInt := kd_add (oz12 p50_2 kn1) (oz474 c54 kn8 kn1)
                                  first | refine fo_goL mi_k71 fz71_78_2_80 [(3, .int (l3_50 + 1)), (2, .int l2_45), (1, .int l1_4), (0, .ref 49)] [] (by rfl) ?_ | refine fo_goL mi_k71 fz71_122_2_80 [(3, .int (l3_50 + 1)), (2, .int l2_45), (1, .int l1_4), (0, .ref 49)] [] (by rfl) ?_
                                  exact ih50 _ _ _ _ _ hJ145 (oz1021 c44 w140 kn8) (oz1021 c49 w128 kn8) (oz14 p50_2 s146 kn1) (kj_meas (oz475 s146 kn1) (oz476 c54 kn8) hm50)
                                by_cases w147 : l1_4.toInt = 2
                                ·
                                  refine ft_alx mi_k71 (pc := 114) (v := 2) (p := 80) (z := 83) (kj_eq w147 (by decide) : l1_4 = 2) (by decide +kernel) (by decide +kernel) ?_
                                  refine fo_goS mi_k71 fz71_115_1_116 [.int l3_50, .ref 83, .int ((a50 82).getD l1_4.toNatClampNeg 0), .int ((a50 82).getD l3_50.toNatClampNeg 0), .int l3_50, .ref 82] rfl ?_
                                  refine ko_iald3 mi_k71.1 (n := 8) (c := 8) (ax := (0, 0, 0, 0, 0)) (mi_k71.2 _ _ (by rfl)) (by rfl) (ksG83 _ _ _ _) (hL50.I.2.1 83) rfl (oz3 p50_2) (oz936 c54 kn8) ?_
                                  have b148 : ((-2147483648 : Int) ≤ ((a50 82).getD l1_4.toNatClampNeg 0).toInt) ∧ (((a50 82).getD l1_4.toNatClampNeg 0).toInt ≤ 2147483647) := kd_bd ((a50 82).getD l1_4.toNatClampNeg 0)
                                  have b149 : ((-2147483648 : Int) ≤ ((a50 83).getD l3_50.toNatClampNeg 0).toInt) ∧ (((a50 83).getD l3_50.toNatClampNeg 0).toInt ≤ 2147483647) := kd_bd ((a50 83).getD l3_50.toNatClampNeg 0)
                                  refine fo_goS mi_k71 fz71_117_1_118 [.int (((a50 82).getD l1_4.toNatClampNeg 0) + ((a50 83).getD l3_50.toNatClampNeg 0)), .int ((a50 82).getD l3_50.toNatClampNeg 0), .int l3_50, .ref 82] rfl ?_
                                  have m151 : (((bif decide ((((a50 82).getD l1_4.toNatClampNeg 0) + ((a50 83).getD l3_50.toNatClampNeg 0)) < ((a50 82).getD l3_50.toNatClampNeg 0)) then (((a50 82).getD l1_4.toNatClampNeg 0) + ((a50 83).getD l3_50.toNatClampNeg 0)) else ((a50 82).getD l3_50.toNatClampNeg 0)).toInt ≤ ((a50 82).getD l3_50.toNatClampNeg 0).toInt) ∧ ((bif decide ((((a50 82).getD l1_4.toNatClampNeg 0) + ((a50 83).getD l3_50.toNatClampNeg 0)) < ((a50 82).getD l3_50.toNatClampNeg 0)) then (((a50 82).getD l1_4.toNatClampNeg 0) + ((a50 83).getD l3_50.toNatClampNeg 0)) else ((a50 82).getD l3_50.toNatClampNeg 0)).toInt ≤ (((a50 82).getD l1_4.toNatClampNeg 0) + ((a50 83).getD l3_50.toNatClampNeg 0)).toInt)) ∧ ((bif decide ((((a50 82).getD l1_4.toNatClampNeg 0) + ((a50 83).getD l3_50.toNatClampNeg 0)) < ((a50 82).getD l3_50.toNatClampNeg 0)) then (((a50 82).getD l1_4.toNatClampNeg 0) + ((a50 83).getD l3_50.toNatClampNeg 0)) else ((a50 82).getD l3_50.toNatClampNeg 0)).toInt = ((a50 82).getD l3_50.toNatClampNeg 0).toInt ∨ (bif decide ((((a50 82).getD l1_4.toNatClampNeg 0) + ((a50 83).getD l3_50.toNatClampNeg 0)) < ((a50 82).getD l3_50.toNatClampNeg 0)) then (((a50 82).getD l1_4.toNatClampNeg 0) + ((a50 83).getD l3_50.toNatClampNeg 0)) else ((a50 82).getD l3_50.toNatClampNeg 0)).toInt = (((a50 82).getD l1_4.toNatClampNeg 0) + ((a50 83).getD l3_50.toNatClampNeg 0)).toInt) := kd_min
                                  first | refine ft_goS mi_k71 1 121 [.int (bif decide ((((a50 82).getD l1_4.toNatClampNeg 0) + ((a50 83).getD l3_50.toNatClampNeg 0)) < ((a50 82).getD l3_50.toNatClampNeg 0)) then (((a50 82).getD l1_4.toNatClampNeg 0) + ((a50 83).getD l3_50.toNatClampNeg 0)) else ((a50 82).getD l3_50.toNatClampNeg 0)), .int l3_50, .ref 82] (by rfl) ?_ | refine ft_go mi_k71 1 121 [(3, .int l3_50), (2, .int l2_45), (1, .int l1_4), (0, .ref 49)] [.int (bif decide ((((a50 82).getD l1_4.toNatClampNeg 0) + ((a50 83).getD l3_50.toNatClampNeg 0)) < ((a50 82).getD l3_50.toNatClampNeg 0)) then (((a50 82).getD l1_4.toNatClampNeg 0) + ((a50 83).getD l3_50.toNatClampNeg 0)) else ((a50 82).getD l3_50.toNatClampNeg 0)), .int l3_50, .ref 82] i50 a50 q50 r50 (by rfl) ?_ | refine ko_steps mi_in71 1 _ (121, [(3, .int l3_50), (2, .int l2_45), (1, .int l1_4), (0, .ref 49)], [.int (bif decide ((((a50 82).getD l1_4.toNatClampNeg 0) + ((a50 83).getD l3_50.toNatClampNeg 0)) < ((a50 82).getD l3_50.toNatClampNeg 0)) then (((a50 82).getD l1_4.toNatClampNeg 0) + ((a50 83).getD l3_50.toNatClampNeg 0)) else ((a50 82).getD l3_50.toNatClampNeg 0)), .int l3_50, .ref 82], (0, 0), ks i50 a50 q50 r50) (by rfl) ?_
                                  generalize (bif decide ((((a50 82).getD l1_4.toNatClampNeg 0) + ((a50 83).getD l3_50.toNatClampNeg 0)) < ((a50 82).getD l3_50.toNatClampNeg 0)) then (((a50 82).getD l1_4.toNatClampNeg 0) + ((a50 83).getD l3_50.toNatClampNeg 0)) else ((a50 82).getD l3_50.toNatClampNeg 0)) = m150 at m151 ⊢
                                  refine ko_iast3 mi_k71.1 (n := 8) (c := 8) (ax := (0, 0, 0, 0, 0)) (mi_k71.2 _ _ (by rfl)) (by rfl) (ksG82 _ _ _ _) (ksA82 _ _ _ _) (hL50.I.2.1 82) rfl (oz3 p50_2) (oz936 c54 kn8) ?_
                                  intro a152 ea152 fa152
                                  have hJ152 := kG_a3 hL50 82 rfl ea152 fa152 (kd_bd _)
                                  have s153 : (l3_50 + 1).toInt = l3_50.toInt + (1 : Int32).toInt := kd_add (oz12 p50_2 kn1) (oz474 c54 kn8 kn1)
                                  first | refine fo_goL mi_k71 fz71_78_2_80 [(3, .int (l3_50 + 1)), (2, .int l2_45), (1, .int l1_4), (0, .ref 49)] [] (by rfl) ?_ | refine fo_goL mi_k71 fz71_122_2_80 [(3, .int (l3_50 + 1)), (2, .int l2_45), (1, .int l1_4), (0, .ref 49)] [] (by rfl) ?_
                                  exact ih50 _ _ _ _ _ hJ152 (oz1022 c44 w147 kn8) (oz1021 c49 w128 kn8) (oz14 p50_2 s153 kn1) (kj_meas (oz475 s153 kn1) (oz476 c54 kn8) hm50)
                                by_cases w154 : l1_4.toInt = 3
                                ·
                                  refine ft_alx mi_k71 (pc := 114) (v := 3) (p := 80) (z := 84) (kj_eq w154 (by decide) : l1_4 = 3) (by decide +kernel) (by decide +kernel) ?_
                                  refine fo_goS mi_k71 fz71_115_1_116 [.int l3_50, .ref 84, .int ((a50 82).getD l1_4.toNatClampNeg 0), .int ((a50 82).getD l3_50.toNatClampNeg 0), .int l3_50, .ref 82] rfl ?_
                                  refine ko_iald3 mi_k71.1 (n := 8) (c := 8) (ax := (0, 0, 0, 0, 0)) (mi_k71.2 _ _ (by rfl)) (by rfl) (ksG84 _ _ _ _) (hL50.I.2.1 84) rfl (oz3 p50_2) (oz936 c54 kn8) ?_
                                  have b155 : ((-2147483648 : Int) ≤ ((a50 82).getD l1_4.toNatClampNeg 0).toInt) ∧ (((a50 82).getD l1_4.toNatClampNeg 0).toInt ≤ 2147483647) := kd_bd ((a50 82).getD l1_4.toNatClampNeg 0)
                                  have b156 : ((-2147483648 : Int) ≤ ((a50 84).getD l3_50.toNatClampNeg 0).toInt) ∧ (((a50 84).getD l3_50.toNatClampNeg 0).toInt ≤ 2147483647) := kd_bd ((a50 84).getD l3_50.toNatClampNeg 0)
                                  refine fo_goS mi_k71 fz71_117_1_118 [.int (((a50 82).getD l1_4.toNatClampNeg 0) + ((a50 84).getD l3_50.toNatClampNeg 0)), .int ((a50 82).getD l3_50.toNatClampNeg 0), .int l3_50, .ref 82] rfl ?_
                                  have m158 : (((bif decide ((((a50 82).getD l1_4.toNatClampNeg 0) + ((a50 84).getD l3_50.toNatClampNeg 0)) < ((a50 82).getD l3_50.toNatClampNeg 0)) then (((a50 82).getD l1_4.toNatClampNeg 0) + ((a50 84).getD l3_50.toNatClampNeg 0)) else ((a50 82).getD l3_50.toNatClampNeg 0)).toInt ≤ ((a50 82).getD l3_50.toNatClampNeg 0).toInt) ∧ ((bif decide ((((a50 82).getD l1_4.toNatClampNeg 0) + ((a50 84).getD l3_50.toNatClampNeg 0)) < ((a50 82).getD l3_50.toNatClampNeg 0)) then (((a50 82).getD l1_4.toNatClampNeg 0) + ((a50 84).getD l3_50.toNatClampNeg 0)) else ((a50 82).getD l3_50.toNatClampNeg 0)).toInt ≤ (((a50 82).getD l1_4.toNatClampNeg 0) + ((a50 84).getD l3_50.toNatClampNeg 0)).toInt)) ∧ ((bif decide ((((a50 82).getD l1_4.toNatClampNeg 0) + ((a50 84).getD l3_50.toNatClampNeg 0)) < ((a50 82).getD l3_50.toNatClampNeg 0)) then (((a50 82).getD l1_4.toNatClampNeg 0) + ((a50 84).getD l3_50.toNatClampNeg 0)) else ((a50 82).getD l3_50.toNatClampNeg 0)).toInt = ((a50 82).getD l3_50.toNatClampNeg 0).toInt ∨ (bif decide ((((a50 82).getD l1_4.toNatClampNeg 0) + ((a50 84).getD l3_50.toNatClampNeg 0)) < ((a50 82).getD l3_50.toNatClampNeg 0)) then (((a50 82).getD l1_4.toNatClampNeg 0) + ((a50 84).getD l3_50.toNatClampNeg 0)) else ((a50 82).getD l3_50.toNatClampNeg 0)).toInt = (((a50 82).getD l1_4.toNatClampNeg 0) + ((a50 84).getD l3_50.toNatClampNeg 0)).toInt) := kd_min
                                  first | refine ft_goS mi_k71 1 121 [.int (bif decide ((((a50 82).getD l1_4.toNatClampNeg 0) + ((a50 84).getD l3_50.toNatClampNeg 0)) < ((a50 82).getD l3_50.toNatClampNeg 0)) then (((a50 82).getD l1_4.toNatClampNeg 0) + ((a50 84).getD l3_50.toNatClampNeg 0)) else ((a50 82).getD l3_50.toNatClampNeg 0)), .int l3_50, .ref 82] (by rfl) ?_ | refine ft_go mi_k71 1 121 [(3, .int l3_50), (2, .int l2_45), (1, .int l1_4), (0, .ref 49)] [.int (bif decide ((((a50 82).getD l1_4.toNatClampNeg 0) + ((a50 84).getD l3_50.toNatClampNeg 0)) < ((a50 82).getD l3_50.toNatClampNeg 0)) then (((a50 82).getD l1_4.toNatClampNeg 0) + ((a50 84).getD l3_50.toNatClampNeg 0)) else ((a50 82).getD l3_50.toNatClampNeg 0)), .int l3_50, .ref 82] i50 a50 q50 r50 (by rfl) ?_ | refine ko_steps mi_in71 1 _ (121, [(3, .int l3_50), (2, .int l2_45), (1, .int l1_4), (0, .ref 49)], [.int (bif decide ((((a50 82).getD l1_4.toNatClampNeg 0) + ((a50 84).getD l3_50.toNatClampNeg 0)) < ((a50 82).getD l3_50.toNatClampNeg 0)) then (((a50 82).getD l1_4.toNatClampNeg 0) + ((a50 84).getD l3_50.toNatClampNeg 0)) else ((a50 82).getD l3_50.toNatClampNeg 0)), .int l3_50, .ref 82], (0, 0), ks i50 a50 q50 r50) (by rfl) ?_
                                  generalize (bif decide ((((a50 82).getD l1_4.toNatClampNeg 0) + ((a50 84).getD l3_50.toNatClampNeg 0)) < ((a50 82).getD l3_50.toNatClampNeg 0)) then (((a50 82).getD l1_4.toNatClampNeg 0) + ((a50 84).getD l3_50.toNatClampNeg 0)) else ((a50 82).getD l3_50.toNatClampNeg 0)) = m157 at m158 ⊢
                                  refine ko_iast3 mi_k71.1 (n := 8) (c := 8) (ax := (0, 0, 0, 0, 0)) (mi_k71.2 _ _ (by rfl)) (by rfl) (ksG82 _ _ _ _) (ksA82 _ _ _ _) (hL50.I.2.1 82) rfl (oz3 p50_2) (oz936 c54 kn8) ?_
                                  intro a159 ea159 fa159
                                  have hJ159 := kG_a3 hL50 82 rfl ea159 fa159 (kd_bd _)
                                  have s160 : (l3_50 + 1).toInt = l3_50.toInt + (1 : Int32).toInt := kd_add (oz12 p50_2 kn1) (oz474 c54 kn8 kn1)
                                  first | refine fo_goL mi_k71 fz71_78_2_80 [(3, .int (l3_50 + 1)), (2, .int l2_45), (1, .int l1_4), (0, .ref 49)] [] (by rfl) ?_ | refine fo_goL mi_k71 fz71_122_2_80 [(3, .int (l3_50 + 1)), (2, .int l2_45), (1, .int l1_4), (0, .ref 49)] [] (by rfl) ?_
                                  exact ih50 _ _ _ _ _ hJ159 (oz1023 c44 w154 kn8) (oz1021 c49 w128 kn8) (oz14 p50_2 s160 kn1) (kj_meas (oz475 s160 kn1) (oz476 c54 kn8) hm50)
                                by_cases w161 : l1_4.toInt = 4
                                ·
                                  refine ft_alx mi_k71 (pc := 114) (v := 4) (p := 80) (z := 85) (kj_eq w161 (by decide) : l1_4 = 4) (by decide +kernel) (by decide +kernel) ?_
                                  refine fo_goS mi_k71 fz71_115_1_116 [.int l3_50, .ref 85, .int ((a50 82).getD l1_4.toNatClampNeg 0), .int ((a50 82).getD l3_50.toNatClampNeg 0), .int l3_50, .ref 82] rfl ?_
                                  refine ko_iald3 mi_k71.1 (n := 8) (c := 8) (ax := (0, 0, 0, 0, 0)) (mi_k71.2 _ _ (by rfl)) (by rfl) (ksG85 _ _ _ _) (hL50.I.2.1 85) rfl (oz3 p50_2) (oz936 c54 kn8) ?_
                                  have b162 : ((-2147483648 : Int) ≤ ((a50 82).getD l1_4.toNatClampNeg 0).toInt) ∧ (((a50 82).getD l1_4.toNatClampNeg 0).toInt ≤ 2147483647) := kd_bd ((a50 82).getD l1_4.toNatClampNeg 0)
                                  have b163 : ((-2147483648 : Int) ≤ ((a50 85).getD l3_50.toNatClampNeg 0).toInt) ∧ (((a50 85).getD l3_50.toNatClampNeg 0).toInt ≤ 2147483647) := kd_bd ((a50 85).getD l3_50.toNatClampNeg 0)
                                  refine fo_goS mi_k71 fz71_117_1_118 [.int (((a50 82).getD l1_4.toNatClampNeg 0) + ((a50 85).getD l3_50.toNatClampNeg 0)), .int ((a50 82).getD l3_50.toNatClampNeg 0), .int l3_50, .ref 82] rfl ?_
                                  have m165 : (((bif decide ((((a50 82).getD l1_4.toNatClampNeg 0) + ((a50 85).getD l3_50.toNatClampNeg 0)) < ((a50 82).getD l3_50.toNatClampNeg 0)) then (((a50 82).getD l1_4.toNatClampNeg 0) + ((a50 85).getD l3_50.toNatClampNeg 0)) else ((a50 82).getD l3_50.toNatClampNeg 0)).toInt ≤ ((a50 82).getD l3_50.toNatClampNeg 0).toInt) ∧ ((bif decide ((((a50 82).getD l1_4.toNatClampNeg 0) + ((a50 85).getD l3_50.toNatClampNeg 0)) < ((a50 82).getD l3_50.toNatClampNeg 0)) then (((a50 82).getD l1_4.toNatClampNeg 0) + ((a50 85).getD l3_50.toNatClampNeg 0)) else ((a50 82).getD l3_50.toNatClampNeg 0)).toInt ≤ (((a50 82).getD l1_4.toNatClampNeg 0) + ((a50 85).getD l3_50.toNatClampNeg 0)).toInt)) ∧ ((bif decide ((((a50 82).getD l1_4.toNatClampNeg 0) + ((a50 85).getD l3_50.toNatClampNeg 0)) < ((a50 82).getD l3_50.toNatClampNeg 0)) then (((a50 82).getD l1_4.toNatClampNeg 0) + ((a50 85).getD l3_50.toNatClampNeg 0)) else ((a50 82).getD l3_50.toNatClampNeg 0)).toInt = ((a50 82).getD l3_50.toNatClampNeg 0).toInt ∨ (bif decide ((((a50 82).getD l1_4.toNatClampNeg 0) + ((a50 85).getD l3_50.toNatClampNeg 0)) < ((a50 82).getD l3_50.toNatClampNeg 0)) then (((a50 82).getD l1_4.toNatClampNeg 0) + ((a50 85).getD l3_50.toNatClampNeg 0)) else ((a50 82).getD l3_50.toNatClampNeg 0)).toInt = (((a50 82).getD l1_4.toNatClampNeg 0) + ((a50 85).getD l3_50.toNatClampNeg 0)).toInt) := kd_min
                                  first | refine ft_goS mi_k71 1 121 [.int (bif decide ((((a50 82).getD l1_4.toNatClampNeg 0) + ((a50 85).getD l3_50.toNatClampNeg 0)) < ((a50 82).getD l3_50.toNatClampNeg 0)) then (((a50 82).getD l1_4.toNatClampNeg 0) + ((a50 85).getD l3_50.toNatClampNeg 0)) else ((a50 82).getD l3_50.toNatClampNeg 0)), .int l3_50, .ref 82] (by rfl) ?_ | refine ft_go mi_k71 1 121 [(3, .int l3_50), (2, .int l2_45), (1, .int l1_4), (0, .ref 49)] [.int (bif decide ((((a50 82).getD l1_4.toNatClampNeg 0) + ((a50 85).getD l3_50.toNatClampNeg 0)) < ((a50 82).getD l3_50.toNatClampNeg 0)) then (((a50 82).getD l1_4.toNatClampNeg 0) + ((a50 85).getD l3_50.toNatClampNeg 0)) else ((a50 82).getD l3_50.toNatClampNeg 0)), .int l3_50, .ref 82] i50 a50 q50 r50 (by rfl) ?_ | refine ko_steps mi_in71 1 _ (121, [(3, .int l3_50), (2, .int l2_45), (1, .int l1_4), (0, .ref 49)], [.int (bif decide ((((a50 82).getD l1_4.toNatClampNeg 0) + ((a50 85).getD l3_50.toNatClampNeg 0)) < ((a50 82).getD l3_50.toNatClampNeg 0)) then (((a50 82).getD l1_4.toNatClampNeg 0) + ((a50 85).getD l3_50.toNatClampNeg 0)) else ((a50 82).getD l3_50.toNatClampNeg 0)), .int l3_50, .ref 82], (0, 0), ks i50 a50 q50 r50) (by rfl) ?_
                                  generalize (bif decide ((((a50 82).getD l1_4.toNatClampNeg 0) + ((a50 85).getD l3_50.toNatClampNeg 0)) < ((a50 82).getD l3_50.toNatClampNeg 0)) then (((a50 82).getD l1_4.toNatClampNeg 0) + ((a50 85).getD l3_50.toNatClampNeg 0)) else ((a50 82).getD l3_50.toNatClampNeg 0)) = m164 at m165 ⊢
                                  refine ko_iast3 mi_k71.1 (n := 8) (c := 8) (ax := (0, 0, 0, 0, 0)) (mi_k71.2 _ _ (by rfl)) (by rfl) (ksG82 _ _ _ _) (ksA82 _ _ _ _) (hL50.I.2.1 82) rfl (oz3 p50_2) (oz936 c54 kn8) ?_
                                  intro a166 ea166 fa166
                                  have hJ166 := kG_a3 hL50 82 rfl ea166 fa166 (kd_bd _)
                                  have s167 : (l3_50 + 1).toInt = l3_50.toInt + (1 : Int32).toInt := kd_add (oz12 p50_2 kn1) (oz474 c54 kn8 kn1)
                                  first | refine fo_goL mi_k71 fz71_78_2_80 [(3, .int (l3_50 + 1)), (2, .int l2_45), (1, .int l1_4), (0, .ref 49)] [] (by rfl) ?_ | refine fo_goL mi_k71 fz71_122_2_80 [(3, .int (l3_50 + 1)), (2, .int l2_45), (1, .int l1_4), (0, .ref 49)] [] (by rfl) ?_
                                  exact ih50 _ _ _ _ _ hJ166 (oz1024 c44 w161 kn8) (oz1021 c49 w128 kn8) (oz14 p50_2 s167 kn1) (kj_meas (oz475 s167 kn1) (oz476 c54 kn8) hm50)
                                by_cases w168 : l1_4.toInt = 5
                                ·
                                  refine ft_alx mi_k71 (pc := 114) (v := 5) (p := 80) (z := 86) (kj_eq w168 (by decide) : l1_4 = 5) (by decide +kernel) (by decide +kernel) ?_
                                  refine fo_goS mi_k71 fz71_115_1_116 [.int l3_50, .ref 86, .int ((a50 82).getD l1_4.toNatClampNeg 0), .int ((a50 82).getD l3_50.toNatClampNeg 0), .int l3_50, .ref 82] rfl ?_
                                  refine ko_iald3 mi_k71.1 (n := 8) (c := 8) (ax := (0, 0, 0, 0, 0)) (mi_k71.2 _ _ (by rfl)) (by rfl) (ksG86 _ _ _ _) (hL50.I.2.1 86) rfl (oz3 p50_2) (oz936 c54 kn8) ?_
                                  have b169 : ((-2147483648 : Int) ≤ ((a50 82).getD l1_4.toNatClampNeg 0).toInt) ∧ (((a50 82).getD l1_4.toNatClampNeg 0).toInt ≤ 2147483647) := kd_bd ((a50 82).getD l1_4.toNatClampNeg 0)
                                  have b170 : ((-2147483648 : Int) ≤ ((a50 86).getD l3_50.toNatClampNeg 0).toInt) ∧ (((a50 86).getD l3_50.toNatClampNeg 0).toInt ≤ 2147483647) := kd_bd ((a50 86).getD l3_50.toNatClampNeg 0)
                                  refine fo_goS mi_k71 fz71_117_1_118 [.int (((a50 82).getD l1_4.toNatClampNeg 0) + ((a50 86).getD l3_50.toNatClampNeg 0)), .int ((a50 82).getD l3_50.toNatClampNeg 0), .int l3_50, .ref 82] rfl ?_
                                  have m172 : (((bif decide ((((a50 82).getD l1_4.toNatClampNeg 0) + ((a50 86).getD l3_50.toNatClampNeg 0)) < ((a50 82).getD l3_50.toNatClampNeg 0)) then (((a50 82).getD l1_4.toNatClampNeg 0) + ((a50 86).getD l3_50.toNatClampNeg 0)) else ((a50 82).getD l3_50.toNatClampNeg 0)).toInt ≤ ((a50 82).getD l3_50.toNatClampNeg 0).toInt) ∧ ((bif decide ((((a50 82).getD l1_4.toNatClampNeg 0) + ((a50 86).getD l3_50.toNatClampNeg 0)) < ((a50 82).getD l3_50.toNatClampNeg 0)) then (((a50 82).getD l1_4.toNatClampNeg 0) + ((a50 86).getD l3_50.toNatClampNeg 0)) else ((a50 82).getD l3_50.toNatClampNeg 0)).toInt ≤ (((a50 82).getD l1_4.toNatClampNeg 0) + ((a50 86).getD l3_50.toNatClampNeg 0)).toInt)) ∧ ((bif decide ((((a50 82).getD l1_4.toNatClampNeg 0) + ((a50 86).getD l3_50.toNatClampNeg 0)) < ((a50 82).getD l3_50.toNatClampNeg 0)) then (((a50 82).getD l1_4.toNatClampNeg 0) + ((a50 86).getD l3_50.toNatClampNeg 0)) else ((a50 82).getD l3_50.toNatClampNeg 0)).toInt = ((a50 82).getD l3_50.toNatClampNeg 0).toInt ∨ (bif decide ((((a50 82).getD l1_4.toNatClampNeg 0) + ((a50 86).getD l3_50.toNatClampNeg 0)) < ((a50 82).getD l3_50.toNatClampNeg 0)) then (((a50 82).getD l1_4.toNatClampNeg 0) + ((a50 86).getD l3_50.toNatClampNeg 0)) else ((a50 82).getD l3_50.toNatClampNeg 0)).toInt = (((a50 82).getD l1_4.toNatClampNeg 0) + ((a50 86).getD l3_50.toNatClampNeg 0)).toInt) := kd_min
                                  first | refine ft_goS mi_k71 1 121 [.int (bif decide ((((a50 82).getD l1_4.toNatClampNeg 0) + ((a50 86).getD l3_50.toNatClampNeg 0)) < ((a50 82).getD l3_50.toNatClampNeg 0)) then (((a50 82).getD l1_4.toNatClampNeg 0) + ((a50 86).getD l3_50.toNatClampNeg 0)) else ((a50 82).getD l3_50.toNatClampNeg 0)), .int l3_50, .ref 82] (by rfl) ?_ | refine ft_go mi_k71 1 121 [(3, .int l3_50), (2, .int l2_45), (1, .int l1_4), (0, .ref 49)] [.int (bif decide ((((a50 82).getD l1_4.toNatClampNeg 0) + ((a50 86).getD l3_50.toNatClampNeg 0)) < ((a50 82).getD l3_50.toNatClampNeg 0)) then (((a50 82).getD l1_4.toNatClampNeg 0) + ((a50 86).getD l3_50.toNatClampNeg 0)) else ((a50 82).getD l3_50.toNatClampNeg 0)), .int l3_50, .ref 82] i50 a50 q50 r50 (by rfl) ?_ | refine ko_steps mi_in71 1 _ (121, [(3, .int l3_50), (2, .int l2_45), (1, .int l1_4), (0, .ref 49)], [.int (bif decide ((((a50 82).getD l1_4.toNatClampNeg 0) + ((a50 86).getD l3_50.toNatClampNeg 0)) < ((a50 82).getD l3_50.toNatClampNeg 0)) then (((a50 82).getD l1_4.toNatClampNeg 0) + ((a50 86).getD l3_50.toNatClampNeg 0)) else ((a50 82).getD l3_50.toNatClampNeg 0)), .int l3_50, .ref 82], (0, 0), ks i50 a50 q50 r50) (by rfl) ?_
                                  generalize (bif decide ((((a50 82).getD l1_4.toNatClampNeg 0) + ((a50 86).getD l3_50.toNatClampNeg 0)) < ((a50 82).getD l3_50.toNatClampNeg 0)) then (((a50 82).getD l1_4.toNatClampNeg 0) + ((a50 86).getD l3_50.toNatClampNeg 0)) else ((a50 82).getD l3_50.toNatClampNeg 0)) = m171 at m172 ⊢
                                  refine ko_iast3 mi_k71.1 (n := 8) (c := 8) (ax := (0, 0, 0, 0, 0)) (mi_k71.2 _ _ (by rfl)) (by rfl) (ksG82 _ _ _ _) (ksA82 _ _ _ _) (hL50.I.2.1 82) rfl (oz3 p50_2) (oz936 c54 kn8) ?_
                                  intro a173 ea173 fa173
                                  have hJ173 := kG_a3 hL50 82 rfl ea173 fa173 (kd_bd _)
                                  have s174 : (l3_50 + 1).toInt = l3_50.toInt + (1 : Int32).toInt := kd_add (oz12 p50_2 kn1) (oz474 c54 kn8 kn1)
                                  first | refine fo_goL mi_k71 fz71_78_2_80 [(3, .int (l3_50 + 1)), (2, .int l2_45), (1, .int l1_4), (0, .ref 49)] [] (by rfl) ?_ | refine fo_goL mi_k71 fz71_122_2_80 [(3, .int (l3_50 + 1)), (2, .int l2_45), (1, .int l1_4), (0, .ref 49)] [] (by rfl) ?_
                                  exact ih50 _ _ _ _ _ hJ173 (oz1025 c44 w168 kn8) (oz1021 c49 w128 kn8) (oz14 p50_2 s174 kn1) (kj_meas (oz475 s174 kn1) (oz476 c54 kn8) hm50)
                                by_cases w175 : l1_4.toInt = 6
                                ·
                                  refine ft_alx mi_k71 (pc := 114) (v := 6) (p := 80) (z := 87) (kj_eq w175 (by decide) : l1_4 = 6) (by decide +kernel) (by decide +kernel) ?_
                                  refine fo_goS mi_k71 fz71_115_1_116 [.int l3_50, .ref 87, .int ((a50 82).getD l1_4.toNatClampNeg 0), .int ((a50 82).getD l3_50.toNatClampNeg 0), .int l3_50, .ref 82] rfl ?_
                                  refine ko_iald3 mi_k71.1 (n := 8) (c := 8) (ax := (0, 0, 0, 0, 0)) (mi_k71.2 _ _ (by rfl)) (by rfl) (ksG87 _ _ _ _) (hL50.I.2.1 87) rfl (oz3 p50_2) (oz936 c54 kn8) ?_
                                  have b176 : ((-2147483648 : Int) ≤ ((a50 82).getD l1_4.toNatClampNeg 0).toInt) ∧ (((a50 82).getD l1_4.toNatClampNeg 0).toInt ≤ 2147483647) := kd_bd ((a50 82).getD l1_4.toNatClampNeg 0)
                                  have b177 : ((-2147483648 : Int) ≤ ((a50 87).getD l3_50.toNatClampNeg 0).toInt) ∧ (((a50 87).getD l3_50.toNatClampNeg 0).toInt ≤ 2147483647) := kd_bd ((a50 87).getD l3_50.toNatClampNeg 0)
                                  refine fo_goS mi_k71 fz71_117_1_118 [.int (((a50 82).getD l1_4.toNatClampNeg 0) + ((a50 87).getD l3_50.toNatClampNeg 0)), .int ((a50 82).getD l3_50.toNatClampNeg 0), .int l3_50, .ref 82] rfl ?_
                                  have m179 : (((bif decide ((((a50 82).getD l1_4.toNatClampNeg 0) + ((a50 87).getD l3_50.toNatClampNeg 0)) < ((a50 82).getD l3_50.toNatClampNeg 0)) then (((a50 82).getD l1_4.toNatClampNeg 0) + ((a50 87).getD l3_50.toNatClampNeg 0)) else ((a50 82).getD l3_50.toNatClampNeg 0)).toInt ≤ ((a50 82).getD l3_50.toNatClampNeg 0).toInt) ∧ ((bif decide ((((a50 82).getD l1_4.toNatClampNeg 0) + ((a50 87).getD l3_50.toNatClampNeg 0)) < ((a50 82).getD l3_50.toNatClampNeg 0)) then (((a50 82).getD l1_4.toNatClampNeg 0) + ((a50 87).getD l3_50.toNatClampNeg 0)) else ((a50 82).getD l3_50.toNatClampNeg 0)).toInt ≤ (((a50 82).getD l1_4.toNatClampNeg 0) + ((a50 87).getD l3_50.toNatClampNeg 0)).toInt)) ∧ ((bif decide ((((a50 82).getD l1_4.toNatClampNeg 0) + ((a50 87).getD l3_50.toNatClampNeg 0)) < ((a50 82).getD l3_50.toNatClampNeg 0)) then (((a50 82).getD l1_4.toNatClampNeg 0) + ((a50 87).getD l3_50.toNatClampNeg 0)) else ((a50 82).getD l3_50.toNatClampNeg 0)).toInt = ((a50 82).getD l3_50.toNatClampNeg 0).toInt ∨ (bif decide ((((a50 82).getD l1_4.toNatClampNeg 0) + ((a50 87).getD l3_50.toNatClampNeg 0)) < ((a50 82).getD l3_50.toNatClampNeg 0)) then (((a50 82).getD l1_4.toNatClampNeg 0) + ((a50 87).getD l3_50.toNatClampNeg 0)) else ((a50 82).getD l3_50.toNatClampNeg 0)).toInt = (((a50 82).getD l1_4.toNatClampNeg 0) + ((a50 87).getD l3_50.toNatClampNeg 0)).toInt) := kd_min
                                  first | refine ft_goS mi_k71 1 121 [.int (bif decide ((((a50 82).getD l1_4.toNatClampNeg 0) + ((a50 87).getD l3_50.toNatClampNeg 0)) < ((a50 82).getD l3_50.toNatClampNeg 0)) then (((a50 82).getD l1_4.toNatClampNeg 0) + ((a50 87).getD l3_50.toNatClampNeg 0)) else ((a50 82).getD l3_50.toNatClampNeg 0)), .int l3_50, .ref 82] (by rfl) ?_ | refine ft_go mi_k71 1 121 [(3, .int l3_50), (2, .int l2_45), (1, .int l1_4), (0, .ref 49)] [.int (bif decide ((((a50 82).getD l1_4.toNatClampNeg 0) + ((a50 87).getD l3_50.toNatClampNeg 0)) < ((a50 82).getD l3_50.toNatClampNeg 0)) then (((a50 82).getD l1_4.toNatClampNeg 0) + ((a50 87).getD l3_50.toNatClampNeg 0)) else ((a50 82).getD l3_50.toNatClampNeg 0)), .int l3_50, .ref 82] i50 a50 q50 r50 (by rfl) ?_ | refine ko_steps mi_in71 1 _ (121, [(3, .int l3_50), (2, .int l2_45), (1, .int l1_4), (0, .ref 49)], [.int (bif decide ((((a50 82).getD l1_4.toNatClampNeg 0) + ((a50 87).getD l3_50.toNatClampNeg 0)) < ((a50 82).getD l3_50.toNatClampNeg 0)) then (((a50 82).getD l1_4.toNatClampNeg 0) + ((a50 87).getD l3_50.toNatClampNeg 0)) else ((a50 82).getD l3_50.toNatClampNeg 0)), .int l3_50, .ref 82], (0, 0), ks i50 a50 q50 r50) (by rfl) ?_
                                  generalize (bif decide ((((a50 82).getD l1_4.toNatClampNeg 0) + ((a50 87).getD l3_50.toNatClampNeg 0)) < ((a50 82).getD l3_50.toNatClampNeg 0)) then (((a50 82).getD l1_4.toNatClampNeg 0) + ((a50 87).getD l3_50.toNatClampNeg 0)) else ((a50 82).getD l3_50.toNatClampNeg 0)) = m178 at m179 ⊢
                                  refine ko_iast3 mi_k71.1 (n := 8) (c := 8) (ax := (0, 0, 0, 0, 0)) (mi_k71.2 _ _ (by rfl)) (by rfl) (ksG82 _ _ _ _) (ksA82 _ _ _ _) (hL50.I.2.1 82) rfl (oz3 p50_2) (oz936 c54 kn8) ?_
                                  intro a180 ea180 fa180
                                  have hJ180 := kG_a3 hL50 82 rfl ea180 fa180 (kd_bd _)
                                  have s181 : (l3_50 + 1).toInt = l3_50.toInt + (1 : Int32).toInt := kd_add (oz12 p50_2 kn1) (oz474 c54 kn8 kn1)
                                  first | refine fo_goL mi_k71 fz71_78_2_80 [(3, .int (l3_50 + 1)), (2, .int l2_45), (1, .int l1_4), (0, .ref 49)] [] (by rfl) ?_ | refine fo_goL mi_k71 fz71_122_2_80 [(3, .int (l3_50 + 1)), (2, .int l2_45), (1, .int l1_4), (0, .ref 49)] [] (by rfl) ?_
                                  exact ih50 _ _ _ _ _ hJ180 (oz1026 c44 w175 kn8) (oz1021 c49 w128 kn8) (oz14 p50_2 s181 kn1) (kj_meas (oz475 s181 kn1) (oz476 c54 kn8) hm50)
                                by_cases w182 : l1_4.toInt = 7
                                ·
                                  refine ft_alx mi_k71 (pc := 114) (v := 7) (p := 80) (z := 88) (kj_eq w182 (by decide) : l1_4 = 7) (by decide +kernel) (by decide +kernel) ?_
                                  refine fo_goS mi_k71 fz71_115_1_116 [.int l3_50, .ref 88, .int ((a50 82).getD l1_4.toNatClampNeg 0), .int ((a50 82).getD l3_50.toNatClampNeg 0), .int l3_50, .ref 82] rfl ?_
                                  refine ko_iald3 mi_k71.1 (n := 8) (c := 8) (ax := (0, 0, 0, 0, 0)) (mi_k71.2 _ _ (by rfl)) (by rfl) (ksG88 _ _ _ _) (hL50.I.2.1 88) rfl (oz3 p50_2) (oz936 c54 kn8) ?_
                                  have b183 : ((-2147483648 : Int) ≤ ((a50 82).getD l1_4.toNatClampNeg 0).toInt) ∧ (((a50 82).getD l1_4.toNatClampNeg 0).toInt ≤ 2147483647) := kd_bd ((a50 82).getD l1_4.toNatClampNeg 0)
                                  have b184 : ((-2147483648 : Int) ≤ ((a50 88).getD l3_50.toNatClampNeg 0).toInt) ∧ (((a50 88).getD l3_50.toNatClampNeg 0).toInt ≤ 2147483647) := kd_bd ((a50 88).getD l3_50.toNatClampNeg 0)
                                  refine fo_goS mi_k71 fz71_117_1_118 [.int (((a50 82).getD l1_4.toNatClampNeg 0) + ((a50 88).getD l3_50.toNatClampNeg 0)), .int ((a50 82).getD l3_50.toNatClampNeg 0), .int l3_50, .ref 82] rfl ?_
                                  have m186 : (((bif decide ((((a50 82).getD l1_4.toNatClampNeg 0) + ((a50 88).getD l3_50.toNatClampNeg 0)) < ((a50 82).getD l3_50.toNatClampNeg 0)) then (((a50 82).getD l1_4.toNatClampNeg 0) + ((a50 88).getD l3_50.toNatClampNeg 0)) else ((a50 82).getD l3_50.toNatClampNeg 0)).toInt ≤ ((a50 82).getD l3_50.toNatClampNeg 0).toInt) ∧ ((bif decide ((((a50 82).getD l1_4.toNatClampNeg 0) + ((a50 88).getD l3_50.toNatClampNeg 0)) < ((a50 82).getD l3_50.toNatClampNeg 0)) then (((a50 82).getD l1_4.toNatClampNeg 0) + ((a50 88).getD l3_50.toNatClampNeg 0)) else ((a50 82).getD l3_50.toNatClampNeg 0)).toInt ≤ (((a50 82).getD l1_4.toNatClampNeg 0) + ((a50 88).getD l3_50.toNatClampNeg 0)).toInt)) ∧ ((bif decide ((((a50 82).getD l1_4.toNatClampNeg 0) + ((a50 88).getD l3_50.toNatClampNeg 0)) < ((a50 82).getD l3_50.toNatClampNeg 0)) then (((a50 82).getD l1_4.toNatClampNeg 0) + ((a50 88).getD l3_50.toNatClampNeg 0)) else ((a50 82).getD l3_50.toNatClampNeg 0)).toInt = ((a50 82).getD l3_50.toNatClampNeg 0).toInt ∨ (bif decide ((((a50 82).getD l1_4.toNatClampNeg 0) + ((a50 88).getD l3_50.toNatClampNeg 0)) < ((a50 82).getD l3_50.toNatClampNeg 0)) then (((a50 82).getD l1_4.toNatClampNeg 0) + ((a50 88).getD l3_50.toNatClampNeg 0)) else ((a50 82).getD l3_50.toNatClampNeg 0)).toInt = (((a50 82).getD l1_4.toNatClampNeg 0) + ((a50 88).getD l3_50.toNatClampNeg 0)).toInt) := kd_min
                                  first | refine ft_goS mi_k71 1 121 [.int (bif decide ((((a50 82).getD l1_4.toNatClampNeg 0) + ((a50 88).getD l3_50.toNatClampNeg 0)) < ((a50 82).getD l3_50.toNatClampNeg 0)) then (((a50 82).getD l1_4.toNatClampNeg 0) + ((a50 88).getD l3_50.toNatClampNeg 0)) else ((a50 82).getD l3_50.toNatClampNeg 0)), .int l3_50, .ref 82] (by rfl) ?_ | refine ft_go mi_k71 1 121 [(3, .int l3_50), (2, .int l2_45), (1, .int l1_4), (0, .ref 49)] [.int (bif decide ((((a50 82).getD l1_4.toNatClampNeg 0) + ((a50 88).getD l3_50.toNatClampNeg 0)) < ((a50 82).getD l3_50.toNatClampNeg 0)) then (((a50 82).getD l1_4.toNatClampNeg 0) + ((a50 88).getD l3_50.toNatClampNeg 0)) else ((a50 82).getD l3_50.toNatClampNeg 0)), .int l3_50, .ref 82] i50 a50 q50 r50 (by rfl) ?_ | refine ko_steps mi_in71 1 _ (121, [(3, .int l3_50), (2, .int l2_45), (1, .int l1_4), (0, .ref 49)], [.int (bif decide ((((a50 82).getD l1_4.toNatClampNeg 0) + ((a50 88).getD l3_50.toNatClampNeg 0)) < ((a50 82).getD l3_50.toNatClampNeg 0)) then (((a50 82).getD l1_4.toNatClampNeg 0) + ((a50 88).getD l3_50.toNatClampNeg 0)) else ((a50 82).getD l3_50.toNatClampNeg 0)), .int l3_50, .ref 82], (0, 0), ks i50 a50 q50 r50) (by rfl) ?_
                                  generalize (bif decide ((((a50 82).getD l1_4.toNatClampNeg 0) + ((a50 88).getD l3_50.toNatClampNeg 0)) < ((a50 82).getD l3_50.toNatClampNeg 0)) then (((a50 82).getD l1_4.toNatClampNeg 0) + ((a50 88).getD l3_50.toNatClampNeg 0)) else ((a50 82).getD l3_50.toNatClampNeg 0)) = m185 at m186 ⊢
                                  refine ko_iast3 mi_k71.1 (n := 8) (c := 8) (ax := (0, 0, 0, 0, 0)) (mi_k71.2 _ _ (by rfl)) (by rfl) (ksG82 _ _ _ _) (ksA82 _ _ _ _) (hL50.I.2.1 82) rfl (oz3 p50_2) (oz936 c54 kn8) ?_
                                  intro a187 ea187 fa187
                                  have hJ187 := kG_a3 hL50 82 rfl ea187 fa187 (kd_bd _)
                                  have s188 : (l3_50 + 1).toInt = l3_50.toInt + (1 : Int32).toInt := kd_add (oz12 p50_2 kn1) (oz474 c54 kn8 kn1)
                                  first | refine fo_goL mi_k71 fz71_78_2_80 [(3, .int (l3_50 + 1)), (2, .int l2_45), (1, .int l1_4), (0, .ref 49)] [] (by rfl) ?_ | refine fo_goL mi_k71 fz71_122_2_80 [(3, .int (l3_50 + 1)), (2, .int l2_45), (1, .int l1_4), (0, .ref 49)] [] (by rfl) ?_
                                  exact ih50 _ _ _ _ _ hJ187 (oz1027 c44 w182 kn8) (oz1021 c49 w128 kn8) (oz14 p50_2 s188 kn1) (kj_meas (oz475 s188 kn1) (oz476 c54 kn8) hm50)
                                exact (oz1028 c44 p4_0 w133 w140 w147 w154 w161 w168 w175 w182 kn8).elim
                              exact (oz995 w128 w132).elim
                            exact (oz995 w128 w130).elim
                          by_cases w201 : l2_45.toInt = 2
                          ·
                            refine ft_alx mi_k71 (pc := 91) (v := 2) (p := 80) (z := 83) (kj_eq w201 (by decide) : l2_45 = 2) (by decide +kernel) (by decide +kernel) ?_
                            refine fo_goS mi_k71 fz71_92_4_98 [.int l2_45, .ref 80, .int l3_50, .ref 83] rfl ?_
                            by_cases w204 : l2_45.toInt = 2
                            ·
                              refine ft_alx mi_k71 (pc := 98) (v := 2) (p := 80) (z := 83) (kj_eq w204 (by decide) : l2_45 = 2) (by decide +kernel) (by decide +kernel) ?_
                              refine fo_goS mi_k71 fz71_99_1_100 [.int l3_50, .ref 83, .int l3_50, .ref 83] rfl ?_
                              refine ko_iald3 mi_k71.1 (n := 8) (c := 8) (ax := (0, 0, 0, 0, 0)) (mi_k71.2 _ _ (by rfl)) (by rfl) (ksG83 _ _ _ _) (hL50.I.2.1 83) rfl (oz3 p50_2) (oz936 c54 kn8) ?_
                              refine fo_goS mi_k71 fz71_101_3_106 [.int l2_45, .ref 80, .int ((a50 83).getD l3_50.toNatClampNeg 0), .int l3_50, .ref 83] rfl ?_
                              by_cases w207 : l2_45.toInt = 2
                              ·
                                refine ft_alx mi_k71 (pc := 106) (v := 2) (p := 80) (z := 83) (kj_eq w207 (by decide) : l2_45 = 2) (by decide +kernel) (by decide +kernel) ?_
                                refine fo_goS mi_k71 fz71_107_1_108 [.int l1_4, .ref 83, .int ((a50 83).getD l3_50.toNatClampNeg 0), .int l3_50, .ref 83] rfl ?_
                                refine ko_iald3 mi_k71.1 (n := 8) (c := 8) (ax := (0, 0, 0, 0, 0)) (mi_k71.2 _ _ (by rfl)) (by rfl) (ksG83 _ _ _ _) (hL50.I.2.1 83) rfl (oz3 p4_0) (oz936 c44 kn8) ?_
                                refine fo_goS mi_k71 fz71_109_3_114 [.int l1_4, .ref 80, .int ((a50 83).getD l1_4.toNatClampNeg 0), .int ((a50 83).getD l3_50.toNatClampNeg 0), .int l3_50, .ref 83] rfl ?_
                                by_cases w208 : l1_4.toInt = 0
                                ·
                                  refine ft_alx mi_k71 (pc := 114) (v := 0) (p := 80) (z := 81) (kj_eq w208 (by decide) : l1_4 = 0) (by decide +kernel) (by decide +kernel) ?_
                                  refine fo_goS mi_k71 fz71_115_1_116 [.int l3_50, .ref 81, .int ((a50 83).getD l1_4.toNatClampNeg 0), .int ((a50 83).getD l3_50.toNatClampNeg 0), .int l3_50, .ref 83] rfl ?_
                                  refine ko_iald3 mi_k71.1 (n := 8) (c := 8) (ax := (0, 0, 0, 0, 0)) (mi_k71.2 _ _ (by rfl)) (by rfl) (ksG81 _ _ _ _) (hL50.I.2.1 81) rfl (oz3 p50_2) (oz936 c54 kn8) ?_
                                  have b209 : ((-2147483648 : Int) ≤ ((a50 83).getD l1_4.toNatClampNeg 0).toInt) ∧ (((a50 83).getD l1_4.toNatClampNeg 0).toInt ≤ 2147483647) := kd_bd ((a50 83).getD l1_4.toNatClampNeg 0)
                                  have b210 : ((-2147483648 : Int) ≤ ((a50 81).getD l3_50.toNatClampNeg 0).toInt) ∧ (((a50 81).getD l3_50.toNatClampNeg 0).toInt ≤ 2147483647) := kd_bd ((a50 81).getD l3_50.toNatClampNeg 0)
                                  refine fo_goS mi_k71 fz71_117_1_118 [.int (((a50 83).getD l1_4.toNatClampNeg 0) + ((a50 81).getD l3_50.toNatClampNeg 0)), .int ((a50 83).getD l3_50.toNatClampNeg 0), .int l3_50, .ref 83] rfl ?_
                                  have m212 : (((bif decide ((((a50 83).getD l1_4.toNatClampNeg 0) + ((a50 81).getD l3_50.toNatClampNeg 0)) < ((a50 83).getD l3_50.toNatClampNeg 0)) then (((a50 83).getD l1_4.toNatClampNeg 0) + ((a50 81).getD l3_50.toNatClampNeg 0)) else ((a50 83).getD l3_50.toNatClampNeg 0)).toInt ≤ ((a50 83).getD l3_50.toNatClampNeg 0).toInt) ∧ ((bif decide ((((a50 83).getD l1_4.toNatClampNeg 0) + ((a50 81).getD l3_50.toNatClampNeg 0)) < ((a50 83).getD l3_50.toNatClampNeg 0)) then (((a50 83).getD l1_4.toNatClampNeg 0) + ((a50 81).getD l3_50.toNatClampNeg 0)) else ((a50 83).getD l3_50.toNatClampNeg 0)).toInt ≤ (((a50 83).getD l1_4.toNatClampNeg 0) + ((a50 81).getD l3_50.toNatClampNeg 0)).toInt)) ∧ ((bif decide ((((a50 83).getD l1_4.toNatClampNeg 0) + ((a50 81).getD l3_50.toNatClampNeg 0)) < ((a50 83).getD l3_50.toNatClampNeg 0)) then (((a50 83).getD l1_4.toNatClampNeg 0) + ((a50 81).getD l3_50.toNatClampNeg 0)) else ((a50 83).getD l3_50.toNatClampNeg 0)).toInt = ((a50 83).getD l3_50.toNatClampNeg 0).toInt ∨ (bif decide ((((a50 83).getD l1_4.toNatClampNeg 0) + ((a50 81).getD l3_50.toNatClampNeg 0)) < ((a50 83).getD l3_50.toNatClampNeg 0)) then (((a50 83).getD l1_4.toNatClampNeg 0) + ((a50 81).getD l3_50.toNatClampNeg 0)) else ((a50 83).getD l3_50.toNatClampNeg 0)).toInt = (((a50 83).getD l1_4.toNatClampNeg 0) + ((a50 81).getD l3_50.toNatClampNeg 0)).toInt) := kd_min
                                  first | refine ft_goS mi_k71 1 121 [.int (bif decide ((((a50 83).getD l1_4.toNatClampNeg 0) + ((a50 81).getD l3_50.toNatClampNeg 0)) < ((a50 83).getD l3_50.toNatClampNeg 0)) then (((a50 83).getD l1_4.toNatClampNeg 0) + ((a50 81).getD l3_50.toNatClampNeg 0)) else ((a50 83).getD l3_50.toNatClampNeg 0)), .int l3_50, .ref 83] (by rfl) ?_ | refine ft_go mi_k71 1 121 [(3, .int l3_50), (2, .int l2_45), (1, .int l1_4), (0, .ref 49)] [.int (bif decide ((((a50 83).getD l1_4.toNatClampNeg 0) + ((a50 81).getD l3_50.toNatClampNeg 0)) < ((a50 83).getD l3_50.toNatClampNeg 0)) then (((a50 83).getD l1_4.toNatClampNeg 0) + ((a50 81).getD l3_50.toNatClampNeg 0)) else ((a50 83).getD l3_50.toNatClampNeg 0)), .int l3_50, .ref 83] i50 a50 q50 r50 (by rfl) ?_ | refine ko_steps mi_in71 1 _ (121, [(3, .int l3_50), (2, .int l2_45), (1, .int l1_4), (0, .ref 49)], [.int (bif decide ((((a50 83).getD l1_4.toNatClampNeg 0) + ((a50 81).getD l3_50.toNatClampNeg 0)) < ((a50 83).getD l3_50.toNatClampNeg 0)) then (((a50 83).getD l1_4.toNatClampNeg 0) + ((a50 81).getD l3_50.toNatClampNeg 0)) else ((a50 83).getD l3_50.toNatClampNeg 0)), .int l3_50, .ref 83], (0, 0), ks i50 a50 q50 r50) (by rfl) ?_
                                  generalize (bif decide ((((a50 83).getD l1_4.toNatClampNeg 0) + ((a50 81).getD l3_50.toNatClampNeg 0)) < ((a50 83).getD l3_50.toNatClampNeg 0)) then (((a50 83).getD l1_4.toNatClampNeg 0) + ((a50 81).getD l3_50.toNatClampNeg 0)) else ((a50 83).getD l3_50.toNatClampNeg 0)) = m211 at m212 ⊢
                                  refine ko_iast3 mi_k71.1 (n := 8) (c := 8) (ax := (0, 0, 0, 0, 0)) (mi_k71.2 _ _ (by rfl)) (by rfl) (ksG83 _ _ _ _) (ksA83 _ _ _ _) (hL50.I.2.1 83) rfl (oz3 p50_2) (oz936 c54 kn8) ?_
                                  intro a213 ea213 fa213
                                  have hJ213 := kG_a3 hL50 83 rfl ea213 fa213 (kd_bd _)
                                  have s214 : (l3_50 + 1).toInt = l3_50.toInt + (1 : Int32).toInt := kd_add (oz12 p50_2 kn1) (oz474 c54 kn8 kn1)
                                  first | refine fo_goL mi_k71 fz71_78_2_80 [(3, .int (l3_50 + 1)), (2, .int l2_45), (1, .int l1_4), (0, .ref 49)] [] (by rfl) ?_ | refine fo_goL mi_k71 fz71_122_2_80 [(3, .int (l3_50 + 1)), (2, .int l2_45), (1, .int l1_4), (0, .ref 49)] [] (by rfl) ?_
                                  exact ih50 _ _ _ _ _ hJ213 (oz488 c44 p4_0 kn8) (oz1022 c49 w201 kn8) (oz14 p50_2 s214 kn1) (kj_meas (oz475 s214 kn1) (oz476 c54 kn8) hm50)
                                by_cases w215 : l1_4.toInt = 1
                                ·
                                  refine ft_alx mi_k71 (pc := 114) (v := 1) (p := 80) (z := 82) (kj_eq w215 (by decide) : l1_4 = 1) (by decide +kernel) (by decide +kernel) ?_
                                  refine fo_goS mi_k71 fz71_115_1_116 [.int l3_50, .ref 82, .int ((a50 83).getD l1_4.toNatClampNeg 0), .int ((a50 83).getD l3_50.toNatClampNeg 0), .int l3_50, .ref 83] rfl ?_
                                  refine ko_iald3 mi_k71.1 (n := 8) (c := 8) (ax := (0, 0, 0, 0, 0)) (mi_k71.2 _ _ (by rfl)) (by rfl) (ksG82 _ _ _ _) (hL50.I.2.1 82) rfl (oz3 p50_2) (oz936 c54 kn8) ?_
                                  have b216 : ((-2147483648 : Int) ≤ ((a50 83).getD l1_4.toNatClampNeg 0).toInt) ∧ (((a50 83).getD l1_4.toNatClampNeg 0).toInt ≤ 2147483647) := kd_bd ((a50 83).getD l1_4.toNatClampNeg 0)
                                  have b217 : ((-2147483648 : Int) ≤ ((a50 82).getD l3_50.toNatClampNeg 0).toInt) ∧ (((a50 82).getD l3_50.toNatClampNeg 0).toInt ≤ 2147483647) := kd_bd ((a50 82).getD l3_50.toNatClampNeg 0)
                                  refine fo_goS mi_k71 fz71_117_1_118 [.int (((a50 83).getD l1_4.toNatClampNeg 0) + ((a50 82).getD l3_50.toNatClampNeg 0)), .int ((a50 83).getD l3_50.toNatClampNeg 0), .int l3_50, .ref 83] rfl ?_
                                  have m219 : (((bif decide ((((a50 83).getD l1_4.toNatClampNeg 0) + ((a50 82).getD l3_50.toNatClampNeg 0)) < ((a50 83).getD l3_50.toNatClampNeg 0)) then (((a50 83).getD l1_4.toNatClampNeg 0) + ((a50 82).getD l3_50.toNatClampNeg 0)) else ((a50 83).getD l3_50.toNatClampNeg 0)).toInt ≤ ((a50 83).getD l3_50.toNatClampNeg 0).toInt) ∧ ((bif decide ((((a50 83).getD l1_4.toNatClampNeg 0) + ((a50 82).getD l3_50.toNatClampNeg 0)) < ((a50 83).getD l3_50.toNatClampNeg 0)) then (((a50 83).getD l1_4.toNatClampNeg 0) + ((a50 82).getD l3_50.toNatClampNeg 0)) else ((a50 83).getD l3_50.toNatClampNeg 0)).toInt ≤ (((a50 83).getD l1_4.toNatClampNeg 0) + ((a50 82).getD l3_50.toNatClampNeg 0)).toInt)) ∧ ((bif decide ((((a50 83).getD l1_4.toNatClampNeg 0) + ((a50 82).getD l3_50.toNatClampNeg 0)) < ((a50 83).getD l3_50.toNatClampNeg 0)) then (((a50 83).getD l1_4.toNatClampNeg 0) + ((a50 82).getD l3_50.toNatClampNeg 0)) else ((a50 83).getD l3_50.toNatClampNeg 0)).toInt = ((a50 83).getD l3_50.toNatClampNeg 0).toInt ∨ (bif decide ((((a50 83).getD l1_4.toNatClampNeg 0) + ((a50 82).getD l3_50.toNatClampNeg 0)) < ((a50 83).getD l3_50.toNatClampNeg 0)) then (((a50 83).getD l1_4.toNatClampNeg 0) + ((a50 82).getD l3_50.toNatClampNeg 0)) else ((a50 83).getD l3_50.toNatClampNeg 0)).toInt = (((a50 83).getD l1_4.toNatClampNeg 0) + ((a50 82).getD l3_50.toNatClampNeg 0)).toInt) := kd_min
                                  first | refine ft_goS mi_k71 1 121 [.int (bif decide ((((a50 83).getD l1_4.toNatClampNeg 0) + ((a50 82).getD l3_50.toNatClampNeg 0)) < ((a50 83).getD l3_50.toNatClampNeg 0)) then (((a50 83).getD l1_4.toNatClampNeg 0) + ((a50 82).getD l3_50.toNatClampNeg 0)) else ((a50 83).getD l3_50.toNatClampNeg 0)), .int l3_50, .ref 83] (by rfl) ?_ | refine ft_go mi_k71 1 121 [(3, .int l3_50), (2, .int l2_45), (1, .int l1_4), (0, .ref 49)] [.int (bif decide ((((a50 83).getD l1_4.toNatClampNeg 0) + ((a50 82).getD l3_50.toNatClampNeg 0)) < ((a50 83).getD l3_50.toNatClampNeg 0)) then (((a50 83).getD l1_4.toNatClampNeg 0) + ((a50 82).getD l3_50.toNatClampNeg 0)) else ((a50 83).getD l3_50.toNatClampNeg 0)), .int l3_50, .ref 83] i50 a50 q50 r50 (by rfl) ?_ | refine ko_steps mi_in71 1 _ (121, [(3, .int l3_50), (2, .int l2_45), (1, .int l1_4), (0, .ref 49)], [.int (bif decide ((((a50 83).getD l1_4.toNatClampNeg 0) + ((a50 82).getD l3_50.toNatClampNeg 0)) < ((a50 83).getD l3_50.toNatClampNeg 0)) then (((a50 83).getD l1_4.toNatClampNeg 0) + ((a50 82).getD l3_50.toNatClampNeg 0)) else ((a50 83).getD l3_50.toNatClampNeg 0)), .int l3_50, .ref 83], (0, 0), ks i50 a50 q50 r50) (by rfl) ?_
                                  generalize (bif decide ((((a50 83).getD l1_4.toNatClampNeg 0) + ((a50 82).getD l3_50.toNatClampNeg 0)) < ((a50 83).getD l3_50.toNatClampNeg 0)) then (((a50 83).getD l1_4.toNatClampNeg 0) + ((a50 82).getD l3_50.toNatClampNeg 0)) else ((a50 83).getD l3_50.toNatClampNeg 0)) = m218 at m219 ⊢
                                  refine ko_iast3 mi_k71.1 (n := 8) (c := 8) (ax := (0, 0, 0, 0, 0)) (mi_k71.2 _ _ (by rfl)) (by rfl) (ksG83 _ _ _ _) (ksA83 _ _ _ _) (hL50.I.2.1 83) rfl (oz3 p50_2) (oz936 c54 kn8) ?_
                                  intro a220 ea220 fa220
                                  have hJ220 := kG_a3 hL50 83 rfl ea220 fa220 (kd_bd _)
                                  have s221 : (l3_50 + 1).toInt = l3_50.toInt + (1 : Int32).toInt := kd_add (oz12 p50_2 kn1) (oz474 c54 kn8 kn1)
                                  first | refine fo_goL mi_k71 fz71_78_2_80 [(3, .int (l3_50 + 1)), (2, .int l2_45), (1, .int l1_4), (0, .ref 49)] [] (by rfl) ?_ | refine fo_goL mi_k71 fz71_122_2_80 [(3, .int (l3_50 + 1)), (2, .int l2_45), (1, .int l1_4), (0, .ref 49)] [] (by rfl) ?_
                                  exact ih50 _ _ _ _ _ hJ220 (oz1021 c44 w215 kn8) (oz1022 c49 w201 kn8) (oz14 p50_2 s221 kn1) (kj_meas (oz475 s221 kn1) (oz476 c54 kn8) hm50)
                                by_cases w222 : l1_4.toInt = 2
                                ·
                                  refine ft_alx mi_k71 (pc := 114) (v := 2) (p := 80) (z := 83) (kj_eq w222 (by decide) : l1_4 = 2) (by decide +kernel) (by decide +kernel) ?_
                                  refine fo_goS mi_k71 fz71_115_1_116 [.int l3_50, .ref 83, .int ((a50 83).getD l1_4.toNatClampNeg 0), .int ((a50 83).getD l3_50.toNatClampNeg 0), .int l3_50, .ref 83] rfl ?_
                                  refine ko_iald3 mi_k71.1 (n := 8) (c := 8) (ax := (0, 0, 0, 0, 0)) (mi_k71.2 _ _ (by rfl)) (by rfl) (ksG83 _ _ _ _) (hL50.I.2.1 83) rfl (oz3 p50_2) (oz936 c54 kn8) ?_
                                  have b223 : ((-2147483648 : Int) ≤ ((a50 83).getD l1_4.toNatClampNeg 0).toInt) ∧ (((a50 83).getD l1_4.toNatClampNeg 0).toInt ≤ 2147483647) := kd_bd ((a50 83).getD l1_4.toNatClampNeg 0)
                                  have b224 : ((-2147483648 : Int) ≤ ((a50 83).getD l3_50.toNatClampNeg 0).toInt) ∧ (((a50 83).getD l3_50.toNatClampNeg 0).toInt ≤ 2147483647) := kd_bd ((a50 83).getD l3_50.toNatClampNeg 0)
                                  refine fo_goS mi_k71 fz71_117_1_118 [.int (((a50 83).getD l1_4.toNatClampNeg 0) + ((a50 83).getD l3_50.toNatClampNeg 0)), .int ((a50 83).getD l3_50.toNatClampNeg 0), .int l3_50, .ref 83] rfl ?_
                                  have m226 : (((bif decide ((((a50 83).getD l1_4.toNatClampNeg 0) + ((a50 83).getD l3_50.toNatClampNeg 0)) < ((a50 83).getD l3_50.toNatClampNeg 0)) then (((a50 83).getD l1_4.toNatClampNeg 0) + ((a50 83).getD l3_50.toNatClampNeg 0)) else ((a50 83).getD l3_50.toNatClampNeg 0)).toInt ≤ ((a50 83).getD l3_50.toNatClampNeg 0).toInt) ∧ ((bif decide ((((a50 83).getD l1_4.toNatClampNeg 0) + ((a50 83).getD l3_50.toNatClampNeg 0)) < ((a50 83).getD l3_50.toNatClampNeg 0)) then (((a50 83).getD l1_4.toNatClampNeg 0) + ((a50 83).getD l3_50.toNatClampNeg 0)) else ((a50 83).getD l3_50.toNatClampNeg 0)).toInt ≤ (((a50 83).getD l1_4.toNatClampNeg 0) + ((a50 83).getD l3_50.toNatClampNeg 0)).toInt)) ∧ ((bif decide ((((a50 83).getD l1_4.toNatClampNeg 0) + ((a50 83).getD l3_50.toNatClampNeg 0)) < ((a50 83).getD l3_50.toNatClampNeg 0)) then (((a50 83).getD l1_4.toNatClampNeg 0) + ((a50 83).getD l3_50.toNatClampNeg 0)) else ((a50 83).getD l3_50.toNatClampNeg 0)).toInt = ((a50 83).getD l3_50.toNatClampNeg 0).toInt ∨ (bif decide ((((a50 83).getD l1_4.toNatClampNeg 0) + ((a50 83).getD l3_50.toNatClampNeg 0)) < ((a50 83).getD l3_50.toNatClampNeg 0)) then (((a50 83).getD l1_4.toNatClampNeg 0) + ((a50 83).getD l3_50.toNatClampNeg 0)) else ((a50 83).getD l3_50.toNatClampNeg 0)).toInt = (((a50 83).getD l1_4.toNatClampNeg 0) + ((a50 83).getD l3_50.toNatClampNeg 0)).toInt) := kd_min
                                  first | refine ft_goS mi_k71 1 121 [.int (bif decide ((((a50 83).getD l1_4.toNatClampNeg 0) + ((a50 83).getD l3_50.toNatClampNeg 0)) < ((a50 83).getD l3_50.toNatClampNeg 0)) then (((a50 83).getD l1_4.toNatClampNeg 0) + ((a50 83).getD l3_50.toNatClampNeg 0)) else ((a50 83).getD l3_50.toNatClampNeg 0)), .int l3_50, .ref 83] (by rfl) ?_ | refine ft_go mi_k71 1 121 [(3, .int l3_50), (2, .int l2_45), (1, .int l1_4), (0, .ref 49)] [.int (bif decide ((((a50 83).getD l1_4.toNatClampNeg 0) + ((a50 83).getD l3_50.toNatClampNeg 0)) < ((a50 83).getD l3_50.toNatClampNeg 0)) then (((a50 83).getD l1_4.toNatClampNeg 0) + ((a50 83).getD l3_50.toNatClampNeg 0)) else ((a50 83).getD l3_50.toNatClampNeg 0)), .int l3_50, .ref 83] i50 a50 q50 r50 (by rfl) ?_ | refine ko_steps mi_in71 1 _ (121, [(3, .int l3_50), (2, .int l2_45), (1, .int l1_4), (0, .ref 49)], [.int (bif decide ((((a50 83).getD l1_4.toNatClampNeg 0) + ((a50 83).getD l3_50.toNatClampNeg 0)) < ((a50 83).getD l3_50.toNatClampNeg 0)) then (((a50 83).getD l1_4.toNatClampNeg 0) + ((a50 83).getD l3_50.toNatClampNeg 0)) else ((a50 83).getD l3_50.toNatClampNeg 0)), .int l3_50, .ref 83], (0, 0), ks i50 a50 q50 r50) (by rfl) ?_
                                  generalize (bif decide ((((a50 83).getD l1_4.toNatClampNeg 0) + ((a50 83).getD l3_50.toNatClampNeg 0)) < ((a50 83).getD l3_50.toNatClampNeg 0)) then (((a50 83).getD l1_4.toNatClampNeg 0) + ((a50 83).getD l3_50.toNatClampNeg 0)) else ((a50 83).getD l3_50.toNatClampNeg 0)) = m225 at m226 ⊢
                                  refine ko_iast3 mi_k71.1 (n := 8) (c := 8) (ax := (0, 0, 0, 0, 0)) (mi_k71.2 _ _ (by rfl)) (by rfl) (ksG83 _ _ _ _) (ksA83 _ _ _ _) (hL50.I.2.1 83) rfl (oz3 p50_2) (oz936 c54 kn8) ?_
                                  intro a227 ea227 fa227
                                  have hJ227 := kG_a3 hL50 83 rfl ea227 fa227 (kd_bd _)
                                  have s228 : (l3_50 + 1).toInt = l3_50.toInt + (1 : Int32).toInt := kd_add (oz12 p50_2 kn1) (oz474 c54 kn8 kn1)
                                  first | refine fo_goL mi_k71 fz71_78_2_80 [(3, .int (l3_50 + 1)), (2, .int l2_45), (1, .int l1_4), (0, .ref 49)] [] (by rfl) ?_ | refine fo_goL mi_k71 fz71_122_2_80 [(3, .int (l3_50 + 1)), (2, .int l2_45), (1, .int l1_4), (0, .ref 49)] [] (by rfl) ?_
                                  exact ih50 _ _ _ _ _ hJ227 (oz1022 c44 w222 kn8) (oz1022 c49 w201 kn8) (oz14 p50_2 s228 kn1) (kj_meas (oz475 s228 kn1) (oz476 c54 kn8) hm50)
                                by_cases w229 : l1_4.toInt = 3
                                ·
                                  refine ft_alx mi_k71 (pc := 114) (v := 3) (p := 80) (z := 84) (kj_eq w229 (by decide) : l1_4 = 3) (by decide +kernel) (by decide +kernel) ?_
                                  refine fo_goS mi_k71 fz71_115_1_116 [.int l3_50, .ref 84, .int ((a50 83).getD l1_4.toNatClampNeg 0), .int ((a50 83).getD l3_50.toNatClampNeg 0), .int l3_50, .ref 83] rfl ?_
                                  refine ko_iald3 mi_k71.1 (n := 8) (c := 8) (ax := (0, 0, 0, 0, 0)) (mi_k71.2 _ _ (by rfl)) (by rfl) (ksG84 _ _ _ _) (hL50.I.2.1 84) rfl (oz3 p50_2) (oz936 c54 kn8) ?_
                                  have b230 : ((-2147483648 : Int) ≤ ((a50 83).getD l1_4.toNatClampNeg 0).toInt) ∧ (((a50 83).getD l1_4.toNatClampNeg 0).toInt ≤ 2147483647) := kd_bd ((a50 83).getD l1_4.toNatClampNeg 0)
                                  have b231 : ((-2147483648 : Int) ≤ ((a50 84).getD l3_50.toNatClampNeg 0).toInt) ∧ (((a50 84).getD l3_50.toNatClampNeg 0).toInt ≤ 2147483647) := kd_bd ((a50 84).getD l3_50.toNatClampNeg 0)
                                  refine fo_goS mi_k71 fz71_117_1_118 [.int (((a50 83).getD l1_4.toNatClampNeg 0) + ((a50 84).getD l3_50.toNatClampNeg 0)), .int ((a50 83).getD l3_50.toNatClampNeg 0), .int l3_50, .ref 83] rfl ?_
                                  have m233 : (((bif decide ((((a50 83).getD l1_4.toNatClampNeg 0) + ((a50 84).getD l3_50.toNatClampNeg 0)) < ((a50 83).getD l3_50.toNatClampNeg 0)) then (((a50 83).getD l1_4.toNatClampNeg 0) + ((a50 84).getD l3_50.toNatClampNeg 0)) else ((a50 83).getD l3_50.toNatClampNeg 0)).toInt ≤ ((a50 83).getD l3_50.toNatClampNeg 0).toInt) ∧ ((bif decide ((((a50 83).getD l1_4.toNatClampNeg 0) + ((a50 84).getD l3_50.toNatClampNeg 0)) < ((a50 83).getD l3_50.toNatClampNeg 0)) then (((a50 83).getD l1_4.toNatClampNeg 0) + ((a50 84).getD l3_50.toNatClampNeg 0)) else ((a50 83).getD l3_50.toNatClampNeg 0)).toInt ≤ (((a50 83).getD l1_4.toNatClampNeg 0) + ((a50 84).getD l3_50.toNatClampNeg 0)).toInt)) ∧ ((bif decide ((((a50 83).getD l1_4.toNatClampNeg 0) + ((a50 84).getD l3_50.toNatClampNeg 0)) < ((a50 83).getD l3_50.toNatClampNeg 0)) then (((a50 83).getD l1_4.toNatClampNeg 0) + ((a50 84).getD l3_50.toNatClampNeg 0)) else ((a50 83).getD l3_50.toNatClampNeg 0)).toInt = ((a50 83).getD l3_50.toNatClampNeg 0).toInt ∨ (bif decide ((((a50 83).getD l1_4.toNatClampNeg 0) + ((a50 84).getD l3_50.toNatClampNeg 0)) < ((a50 83).getD l3_50.toNatClampNeg 0)) then (((a50 83).getD l1_4.toNatClampNeg 0) + ((a50 84).getD l3_50.toNatClampNeg 0)) else ((a50 83).getD l3_50.toNatClampNeg 0)).toInt = (((a50 83).getD l1_4.toNatClampNeg 0) + ((a50 84).getD l3_50.toNatClampNeg 0)).toInt) := kd_min
                                  first | refine ft_goS mi_k71 1 121 [.int (bif decide ((((a50 83).getD l1_4.toNatClampNeg 0) + ((a50 84).getD l3_50.toNatClampNeg 0)) < ((a50 83).getD l3_50.toNatClampNeg 0)) then (((a50 83).getD l1_4.toNatClampNeg 0) + ((a50 84).getD l3_50.toNatClampNeg 0)) else ((a50 83).getD l3_50.toNatClampNeg 0)), .int l3_50, .ref 83] (by rfl) ?_ | refine ft_go mi_k71 1 121 [(3, .int l3_50), (2, .int l2_45), (1, .int l1_4), (0, .ref 49)] [.int (bif decide ((((a50 83).getD l1_4.toNatClampNeg 0) + ((a50 84).getD l3_50.toNatClampNeg 0)) < ((a50 83).getD l3_50.toNatClampNeg 0)) then (((a50 83).getD l1_4.toNatClampNeg 0) + ((a50 84).getD l3_50.toNatClampNeg 0)) else ((a50 83).getD l3_50.toNatClampNeg 0)), .int l3_50, .ref 83] i50 a50 q50 r50 (by rfl) ?_ | refine ko_steps mi_in71 1 _ (121, [(3, .int l3_50), (2, .int l2_45), (1, .int l1_4), (0, .ref 49)], [.int (bif decide ((((a50 83).getD l1_4.toNatClampNeg 0) + ((a50 84).getD l3_50.toNatClampNeg 0)) < ((a50 83).getD l3_50.toNatClampNeg 0)) then (((a50 83).getD l1_4.toNatClampNeg 0) + ((a50 84).getD l3_50.toNatClampNeg 0)) else ((a50 83).getD l3_50.toNatClampNeg 0)), .int l3_50, .ref 83], (0, 0), ks i50 a50 q50 r50) (by rfl) ?_
                                  generalize (bif decide ((((a50 83).getD l1_4.toNatClampNeg 0) + ((a50 84).getD l3_50.toNatClampNeg 0)) < ((a50 83).getD l3_50.toNatClampNeg 0)) then (((a50 83).getD l1_4.toNatClampNeg 0) + ((a50 84).getD l3_50.toNatClampNeg 0)) else ((a50 83).getD l3_50.toNatClampNeg 0)) = m232 at m233 ⊢
                                  refine ko_iast3 mi_k71.1 (n := 8) (c := 8) (ax := (0, 0, 0, 0, 0)) (mi_k71.2 _ _ (by rfl)) (by rfl) (ksG83 _ _ _ _) (ksA83 _ _ _ _) (hL50.I.2.1 83) rfl (oz3 p50_2) (oz936 c54 kn8) ?_
                                  intro a234 ea234 fa234
                                  have hJ234 := kG_a3 hL50 83 rfl ea234 fa234 (kd_bd _)
                                  have s235 : (l3_50 + 1).toInt = l3_50.toInt + (1 : Int32).toInt := kd_add (oz12 p50_2 kn1) (oz474 c54 kn8 kn1)
                                  first | refine fo_goL mi_k71 fz71_78_2_80 [(3, .int (l3_50 + 1)), (2, .int l2_45), (1, .int l1_4), (0, .ref 49)] [] (by rfl) ?_ | refine fo_goL mi_k71 fz71_122_2_80 [(3, .int (l3_50 + 1)), (2, .int l2_45), (1, .int l1_4), (0, .ref 49)] [] (by rfl) ?_
                                  exact ih50 _ _ _ _ _ hJ234 (oz1023 c44 w229 kn8) (oz1022 c49 w201 kn8) (oz14 p50_2 s235 kn1) (kj_meas (oz475 s235 kn1) (oz476 c54 kn8) hm50)
                                by_cases w236 : l1_4.toInt = 4
                                ·
                                  refine ft_alx mi_k71 (pc := 114) (v := 4) (p := 80) (z := 85) (kj_eq w236 (by decide) : l1_4 = 4) (by decide +kernel) (by decide +kernel) ?_
                                  refine fo_goS mi_k71 fz71_115_1_116 [.int l3_50, .ref 85, .int ((a50 83).getD l1_4.toNatClampNeg 0), .int ((a50 83).getD l3_50.toNatClampNeg 0), .int l3_50, .ref 83] rfl ?_
                                  refine ko_iald3 mi_k71.1 (n := 8) (c := 8) (ax := (0, 0, 0, 0, 0)) (mi_k71.2 _ _ (by rfl)) (by rfl) (ksG85 _ _ _ _) (hL50.I.2.1 85) rfl (oz3 p50_2) (oz936 c54 kn8) ?_
                                  have b237 : ((-2147483648 : Int) ≤ ((a50 83).getD l1_4.toNatClampNeg 0).toInt) ∧ (((a50 83).getD l1_4.toNatClampNeg 0).toInt ≤ 2147483647) := kd_bd ((a50 83).getD l1_4.toNatClampNeg 0)
                                  have b238 : ((-2147483648 : Int) ≤ ((a50 85).getD l3_50.toNatClampNeg 0).toInt) ∧ (((a50 85).getD l3_50.toNatClampNeg 0).toInt ≤ 2147483647) := kd_bd ((a50 85).getD l3_50.toNatClampNeg 0)
                                  refine fo_goS mi_k71 fz71_117_1_118 [.int (((a50 83).getD l1_4.toNatClampNeg 0) + ((a50 85).getD l3_50.toNatClampNeg 0)), .int ((a50 83).getD l3_50.toNatClampNeg 0), .int l3_50, .ref 83] rfl ?_
                                  have m240 : (((bif decide ((((a50 83).getD l1_4.toNatClampNeg 0) + ((a50 85).getD l3_50.toNatClampNeg 0)) < ((a50 83).getD l3_50.toNatClampNeg 0)) then (((a50 83).getD l1_4.toNatClampNeg 0) + ((a50 85).getD l3_50.toNatClampNeg 0)) else ((a50 83).getD l3_50.toNatClampNeg 0)).toInt ≤ ((a50 83).getD l3_50.toNatClampNeg 0).toInt) ∧ ((bif decide ((((a50 83).getD l1_4.toNatClampNeg 0) + ((a50 85).getD l3_50.toNatClampNeg 0)) < ((a50 83).getD l3_50.toNatClampNeg 0)) then (((a50 83).getD l1_4.toNatClampNeg 0) + ((a50 85).getD l3_50.toNatClampNeg 0)) else ((a50 83).getD l3_50.toNatClampNeg 0)).toInt ≤ (((a50 83).getD l1_4.toNatClampNeg 0) + ((a50 85).getD l3_50.toNatClampNeg 0)).toInt)) ∧ ((bif decide ((((a50 83).getD l1_4.toNatClampNeg 0) + ((a50 85).getD l3_50.toNatClampNeg 0)) < ((a50 83).getD l3_50.toNatClampNeg 0)) then (((a50 83).getD l1_4.toNatClampNeg 0) + ((a50 85).getD l3_50.toNatClampNeg 0)) else ((a50 83).getD l3_50.toNatClampNeg 0)).toInt = ((a50 83).getD l3_50.toNatClampNeg 0).toInt ∨ (bif decide ((((a50 83).getD l1_4.toNatClampNeg 0) + ((a50 85).getD l3_50.toNatClampNeg 0)) < ((a50 83).getD l3_50.toNatClampNeg 0)) then (((a50 83).getD l1_4.toNatClampNeg 0) + ((a50 85).getD l3_50.toNatClampNeg 0)) else ((a50 83).getD l3_50.toNatClampNeg 0)).toInt = (((a50 83).getD l1_4.toNatClampNeg 0) + ((a50 85).getD l3_50.toNatClampNeg 0)).toInt) := kd_min
                                  first | refine ft_goS mi_k71 1 121 [.int (bif decide ((((a50 83).getD l1_4.toNatClampNeg 0) + ((a50 85).getD l3_50.toNatClampNeg 0)) < ((a50 83).getD l3_50.toNatClampNeg 0)) then (((a50 83).getD l1_4.toNatClampNeg 0) + ((a50 85).getD l3_50.toNatClampNeg 0)) else ((a50 83).getD l3_50.toNatClampNeg 0)), .int l3_50, .ref 83] (by rfl) ?_ | refine ft_go mi_k71 1 121 [(3, .int l3_50), (2, .int l2_45), (1, .int l1_4), (0, .ref 49)] [.int (bif decide ((((a50 83).getD l1_4.toNatClampNeg 0) + ((a50 85).getD l3_50.toNatClampNeg 0)) < ((a50 83).getD l3_50.toNatClampNeg 0)) then (((a50 83).getD l1_4.toNatClampNeg 0) + ((a50 85).getD l3_50.toNatClampNeg 0)) else ((a50 83).getD l3_50.toNatClampNeg 0)), .int l3_50, .ref 83] i50 a50 q50 r50 (by rfl) ?_ | refine ko_steps mi_in71 1 _ (121, [(3, .int l3_50), (2, .int l2_45), (1, .int l1_4), (0, .ref 49)], [.int (bif decide ((((a50 83).getD l1_4.toNatClampNeg 0) + ((a50 85).getD l3_50.toNatClampNeg 0)) < ((a50 83).getD l3_50.toNatClampNeg 0)) then (((a50 83).getD l1_4.toNatClampNeg 0) + ((a50 85).getD l3_50.toNatClampNeg 0)) else ((a50 83).getD l3_50.toNatClampNeg 0)), .int l3_50, .ref 83], (0, 0), ks i50 a50 q50 r50) (by rfl) ?_
                                  generalize (bif decide ((((a50 83).getD l1_4.toNatClampNeg 0) + ((a50 85).getD l3_50.toNatClampNeg 0)) < ((a50 83).getD l3_50.toNatClampNeg 0)) then (((a50 83).getD l1_4.toNatClampNeg 0) + ((a50 85).getD l3_50.toNatClampNeg 0)) else ((a50 83).getD l3_50.toNatClampNeg 0)) = m239 at m240 ⊢
                                  refine ko_iast3 mi_k71.1 (n := 8) (c := 8) (ax := (0, 0, 0, 0, 0)) (mi_k71.2 _ _ (by rfl)) (by rfl) (ksG83 _ _ _ _) (ksA83 _ _ _ _) (hL50.I.2.1 83) rfl (oz3 p50_2) (oz936 c54 kn8) ?_
                                  intro a241 ea241 fa241
                                  have hJ241 := kG_a3 hL50 83 rfl ea241 fa241 (kd_bd _)
                                  have s242 : (l3_50 + 1).toInt = l3_50.toInt + (1 : Int32).toInt := kd_add (oz12 p50_2 kn1) (oz474 c54 kn8 kn1)
                                  first | refine fo_goL mi_k71 fz71_78_2_80 [(3, .int (l3_50 + 1)), (2, .int l2_45), (1, .int l1_4), (0, .ref 49)] [] (by rfl) ?_ | refine fo_goL mi_k71 fz71_122_2_80 [(3, .int (l3_50 + 1)), (2, .int l2_45), (1, .int l1_4), (0, .ref 49)] [] (by rfl) ?_
                                  exact ih50 _ _ _ _ _ hJ241 (oz1024 c44 w236 kn8) (oz1022 c49 w201 kn8) (oz14 p50_2 s242 kn1) (kj_meas (oz475 s242 kn1) (oz476 c54 kn8) hm50)
                                by_cases w243 : l1_4.toInt = 5
                                ·
                                  refine ft_alx mi_k71 (pc := 114) (v := 5) (p := 80) (z := 86) (kj_eq w243 (by decide) : l1_4 = 5) (by decide +kernel) (by decide +kernel) ?_
                                  refine fo_goS mi_k71 fz71_115_1_116 [.int l3_50, .ref 86, .int ((a50 83).getD l1_4.toNatClampNeg 0), .int ((a50 83).getD l3_50.toNatClampNeg 0), .int l3_50, .ref 83] rfl ?_
                                  refine ko_iald3 mi_k71.1 (n := 8) (c := 8) (ax := (0, 0, 0, 0, 0)) (mi_k71.2 _ _ (by rfl)) (by rfl) (ksG86 _ _ _ _) (hL50.I.2.1 86) rfl (oz3 p50_2) (oz936 c54 kn8) ?_
                                  have b244 : ((-2147483648 : Int) ≤ ((a50 83).getD l1_4.toNatClampNeg 0).toInt) ∧ (((a50 83).getD l1_4.toNatClampNeg 0).toInt ≤ 2147483647) := kd_bd ((a50 83).getD l1_4.toNatClampNeg 0)
                                  have b245 : ((-2147483648 : Int) ≤ ((a50 86).getD l3_50.toNatClampNeg 0).toInt) ∧ (((a50 86).getD l3_50.toNatClampNeg 0).toInt ≤ 2147483647) := kd_bd ((a50 86).getD l3_50.toNatClampNeg 0)
                                  refine fo_goS mi_k71 fz71_117_1_118 [.int (((a50 83).getD l1_4.toNatClampNeg 0) + ((a50 86).getD l3_50.toNatClampNeg 0)), .int ((a50 83).getD l3_50.toNatClampNeg 0), .int l3_50, .ref 83] rfl ?_
                                  have m247 : (((bif decide ((((a50 83).getD l1_4.toNatClampNeg 0) + ((a50 86).getD l3_50.toNatClampNeg 0)) < ((a50 83).getD l3_50.toNatClampNeg 0)) then (((a50 83).getD l1_4.toNatClampNeg 0) + ((a50 86).getD l3_50.toNatClampNeg 0)) else ((a50 83).getD l3_50.toNatClampNeg 0)).toInt ≤ ((a50 83).getD l3_50.toNatClampNeg 0).toInt) ∧ ((bif decide ((((a50 83).getD l1_4.toNatClampNeg 0) + ((a50 86).getD l3_50.toNatClampNeg 0)) < ((a50 83).getD l3_50.toNatClampNeg 0)) then (((a50 83).getD l1_4.toNatClampNeg 0) + ((a50 86).getD l3_50.toNatClampNeg 0)) else ((a50 83).getD l3_50.toNatClampNeg 0)).toInt ≤ (((a50 83).getD l1_4.toNatClampNeg 0) + ((a50 86).getD l3_50.toNatClampNeg 0)).toInt)) ∧ ((bif decide ((((a50 83).getD l1_4.toNatClampNeg 0) + ((a50 86).getD l3_50.toNatClampNeg 0)) < ((a50 83).getD l3_50.toNatClampNeg 0)) then (((a50 83).getD l1_4.toNatClampNeg 0) + ((a50 86).getD l3_50.toNatClampNeg 0)) else ((a50 83).getD l3_50.toNatClampNeg 0)).toInt = ((a50 83).getD l3_50.toNatClampNeg 0).toInt ∨ (bif decide ((((a50 83).getD l1_4.toNatClampNeg 0) + ((a50 86).getD l3_50.toNatClampNeg 0)) < ((a50 83).getD l3_50.toNatClampNeg 0)) then (((a50 83).getD l1_4.toNatClampNeg 0) + ((a50 86).getD l3_50.toNatClampNeg 0)) else ((a50 83).getD l3_50.toNatClampNeg 0)).toInt = (((a50 83).getD l1_4.toNatClampNeg 0) + ((a50 86).getD l3_50.toNatClampNeg 0)).toInt) := kd_min
                                  first | refine ft_goS mi_k71 1 121 [.int (bif decide ((((a50 83).getD l1_4.toNatClampNeg 0) + ((a50 86).getD l3_50.toNatClampNeg 0)) < ((a50 83).getD l3_50.toNatClampNeg 0)) then (((a50 83).getD l1_4.toNatClampNeg 0) + ((a50 86).getD l3_50.toNatClampNeg 0)) else ((a50 83).getD l3_50.toNatClampNeg 0)), .int l3_50, .ref 83] (by rfl) ?_ | refine ft_go mi_k71 1 121 [(3, .int l3_50), (2, .int l2_45), (1, .int l1_4), (0, .ref 49)] [.int (bif decide ((((a50 83).getD l1_4.toNatClampNeg 0) + ((a50 86).getD l3_50.toNatClampNeg 0)) < ((a50 83).getD l3_50.toNatClampNeg 0)) then (((a50 83).getD l1_4.toNatClampNeg 0) + ((a50 86).getD l3_50.toNatClampNeg 0)) else ((a50 83).getD l3_50.toNatClampNeg 0)), .int l3_50, .ref 83] i50 a50 q50 r50 (by rfl) ?_ | refine ko_steps mi_in71 1 _ (121, [(3, .int l3_50), (2, .int l2_45), (1, .int l1_4), (0, .ref 49)], [.int (bif decide ((((a50 83).getD l1_4.toNatClampNeg 0) + ((a50 86).getD l3_50.toNatClampNeg 0)) < ((a50 83).getD l3_50.toNatClampNeg 0)) then (((a50 83).getD l1_4.toNatClampNeg 0) + ((a50 86).getD l3_50.toNatClampNeg 0)) else ((a50 83).getD l3_50.toNatClampNeg 0)), .int l3_50, .ref 83], (0, 0), ks i50 a50 q50 r50) (by rfl) ?_
                                  generalize (bif decide ((((a50 83).getD l1_4.toNatClampNeg 0) + ((a50 86).getD l3_50.toNatClampNeg 0)) < ((a50 83).getD l3_50.toNatClampNeg 0)) then (((a50 83).getD l1_4.toNatClampNeg 0) + ((a50 86).getD l3_50.toNatClampNeg 0)) else ((a50 83).getD l3_50.toNatClampNeg 0)) = m246 at m247 ⊢
                                  refine ko_iast3 mi_k71.1 (n := 8) (c := 8) (ax := (0, 0, 0, 0, 0)) (mi_k71.2 _ _ (by rfl)) (by rfl) (ksG83 _ _ _ _) (ksA83 _ _ _ _) (hL50.I.2.1 83) rfl (oz3 p50_2) (oz936 c54 kn8) ?_
                                  intro a248 ea248 fa248
                                  have hJ248 := kG_a3 hL50 83 rfl ea248 fa248 (kd_bd _)
                                  have s249 : (l3_50 + 1).toInt = l3_50.toInt + (1 : Int32).toInt := kd_add (oz12 p50_2 kn1) (oz474 c54 kn8 kn1)
                                  first | refine fo_goL mi_k71 fz71_78_2_80 [(3, .int (l3_50 + 1)), (2, .int l2_45), (1, .int l1_4), (0, .ref 49)] [] (by rfl) ?_ | refine fo_goL mi_k71 fz71_122_2_80 [(3, .int (l3_50 + 1)), (2, .int l2_45), (1, .int l1_4), (0, .ref 49)] [] (by rfl) ?_
                                  exact ih50 _ _ _ _ _ hJ248 (oz1025 c44 w243 kn8) (oz1022 c49 w201 kn8) (oz14 p50_2 s249 kn1) (kj_meas (oz475 s249 kn1) (oz476 c54 kn8) hm50)
                                by_cases w250 : l1_4.toInt = 6
                                ·
                                  refine ft_alx mi_k71 (pc := 114) (v := 6) (p := 80) (z := 87) (kj_eq w250 (by decide) : l1_4 = 6) (by decide +kernel) (by decide +kernel) ?_
                                  refine fo_goS mi_k71 fz71_115_1_116 [.int l3_50, .ref 87, .int ((a50 83).getD l1_4.toNatClampNeg 0), .int ((a50 83).getD l3_50.toNatClampNeg 0), .int l3_50, .ref 83] rfl ?_
                                  refine ko_iald3 mi_k71.1 (n := 8) (c := 8) (ax := (0, 0, 0, 0, 0)) (mi_k71.2 _ _ (by rfl)) (by rfl) (ksG87 _ _ _ _) (hL50.I.2.1 87) rfl (oz3 p50_2) (oz936 c54 kn8) ?_
                                  have b251 : ((-2147483648 : Int) ≤ ((a50 83).getD l1_4.toNatClampNeg 0).toInt) ∧ (((a50 83).getD l1_4.toNatClampNeg 0).toInt ≤ 2147483647) := kd_bd ((a50 83).getD l1_4.toNatClampNeg 0)
                                  have b252 : ((-2147483648 : Int) ≤ ((a50 87).getD l3_50.toNatClampNeg 0).toInt) ∧ (((a50 87).getD l3_50.toNatClampNeg 0).toInt ≤ 2147483647) := kd_bd ((a50 87).getD l3_50.toNatClampNeg 0)
                                  refine fo_goS mi_k71 fz71_117_1_118 [.int (((a50 83).getD l1_4.toNatClampNeg 0) + ((a50 87).getD l3_50.toNatClampNeg 0)), .int ((a50 83).getD l3_50.toNatClampNeg 0), .int l3_50, .ref 83] rfl ?_
                                  have m254 : (((bif decide ((((a50 83).getD l1_4.toNatClampNeg 0) + ((a50 87).getD l3_50.toNatClampNeg 0)) < ((a50 83).getD l3_50.toNatClampNeg 0)) then (((a50 83).getD l1_4.toNatClampNeg 0) + ((a50 87).getD l3_50.toNatClampNeg 0)) else ((a50 83).getD l3_50.toNatClampNeg 0)).toInt ≤ ((a50 83).getD l3_50.toNatClampNeg 0).toInt) ∧ ((bif decide ((((a50 83).getD l1_4.toNatClampNeg 0) + ((a50 87).getD l3_50.toNatClampNeg 0)) < ((a50 83).getD l3_50.toNatClampNeg 0)) then (((a50 83).getD l1_4.toNatClampNeg 0) + ((a50 87).getD l3_50.toNatClampNeg 0)) else ((a50 83).getD l3_50.toNatClampNeg 0)).toInt ≤ (((a50 83).getD l1_4.toNatClampNeg 0) + ((a50 87).getD l3_50.toNatClampNeg 0)).toInt)) ∧ ((bif decide ((((a50 83).getD l1_4.toNatClampNeg 0) + ((a50 87).getD l3_50.toNatClampNeg 0)) < ((a50 83).getD l3_50.toNatClampNeg 0)) then (((a50 83).getD l1_4.toNatClampNeg 0) + ((a50 87).getD l3_50.toNatClampNeg 0)) else ((a50 83).getD l3_50.toNatClampNeg 0)).toInt = ((a50 83).getD l3_50.toNatClampNeg 0).toInt ∨ (bif decide ((((a50 83).getD l1_4.toNatClampNeg 0) + ((a50 87).getD l3_50.toNatClampNeg 0)) < ((a50 83).getD l3_50.toNatClampNeg 0)) then (((a50 83).getD l1_4.toNatClampNeg 0) + ((a50 87).getD l3_50.toNatClampNeg 0)) else ((a50 83).getD l3_50.toNatClampNeg 0)).toInt = (((a50 83).getD l1_4.toNatClampNeg 0) + ((a50 87).getD l3_50.toNatClampNeg 0)).toInt) := kd_min
                                  first | refine ft_goS mi_k71 1 121 [.int (bif decide ((((a50 83).getD l1_4.toNatClampNeg 0) + ((a50 87).getD l3_50.toNatClampNeg 0)) < ((a50 83).getD l3_50.toNatClampNeg 0)) then (((a50 83).getD l1_4.toNatClampNeg 0) + ((a50 87).getD l3_50.toNatClampNeg 0)) else ((a50 83).getD l3_50.toNatClampNeg 0)), .int l3_50, .ref 83] (by rfl) ?_ | refine ft_go mi_k71 1 121 [(3, .int l3_50), (2, .int l2_45), (1, .int l1_4), (0, .ref 49)] [.int (bif decide ((((a50 83).getD l1_4.toNatClampNeg 0) + ((a50 87).getD l3_50.toNatClampNeg 0)) < ((a50 83).getD l3_50.toNatClampNeg 0)) then (((a50 83).getD l1_4.toNatClampNeg 0) + ((a50 87).getD l3_50.toNatClampNeg 0)) else ((a50 83).getD l3_50.toNatClampNeg 0)), .int l3_50, .ref 83] i50 a50 q50 r50 (by rfl) ?_ | refine ko_steps mi_in71 1 _ (121, [(3, .int l3_50), (2, .int l2_45), (1, .int l1_4), (0, .ref 49)], [.int (bif decide ((((a50 83).getD l1_4.toNatClampNeg 0) + ((a50 87).getD l3_50.toNatClampNeg 0)) < ((a50 83).getD l3_50.toNatClampNeg 0)) then (((a50 83).getD l1_4.toNatClampNeg 0) + ((a50 87).getD l3_50.toNatClampNeg 0)) else ((a50 83).getD l3_50.toNatClampNeg 0)), .int l3_50, .ref 83], (0, 0), ks i50 a50 q50 r50) (by rfl) ?_
                                  generalize (bif decide ((((a50 83).getD l1_4.toNatClampNeg 0) + ((a50 87).getD l3_50.toNatClampNeg 0)) < ((a50 83).getD l3_50.toNatClampNeg 0)) then (((a50 83).getD l1_4.toNatClampNeg 0) + ((a50 87).getD l3_50.toNatClampNeg 0)) else ((a50 83).getD l3_50.toNatClampNeg 0)) = m253 at m254 ⊢
                                  refine ko_iast3 mi_k71.1 (n := 8) (c := 8) (ax := (0, 0, 0, 0, 0)) (mi_k71.2 _ _ (by rfl)) (by rfl) (ksG83 _ _ _ _) (ksA83 _ _ _ _) (hL50.I.2.1 83) rfl (oz3 p50_2) (oz936 c54 kn8) ?_
                                  intro a255 ea255 fa255
                                  have hJ255 := kG_a3 hL50 83 rfl ea255 fa255 (kd_bd _)
                                  have s256 : (l3_50 + 1).toInt = l3_50.toInt + (1 : Int32).toInt := kd_add (oz12 p50_2 kn1) (oz474 c54 kn8 kn1)
                                  first | refine fo_goL mi_k71 fz71_78_2_80 [(3, .int (l3_50 + 1)), (2, .int l2_45), (1, .int l1_4), (0, .ref 49)] [] (by rfl) ?_ | refine fo_goL mi_k71 fz71_122_2_80 [(3, .int (l3_50 + 1)), (2, .int l2_45), (1, .int l1_4), (0, .ref 49)] [] (by rfl) ?_
                                  exact ih50 _ _ _ _ _ hJ255 (oz1026 c44 w250 kn8) (oz1022 c49 w201 kn8) (oz14 p50_2 s256 kn1) (kj_meas (oz475 s256 kn1) (oz476 c54 kn8) hm50)
                                by_cases w257 : l1_4.toInt = 7
                                ·
                                  refine ft_alx mi_k71 (pc := 114) (v := 7) (p := 80) (z := 88) (kj_eq w257 (by decide) : l1_4 = 7) (by decide +kernel) (by decide +kernel) ?_
                                  refine fo_goS mi_k71 fz71_115_1_116 [.int l3_50, .ref 88, .int ((a50 83).getD l1_4.toNatClampNeg 0), .int ((a50 83).getD l3_50.toNatClampNeg 0), .int l3_50, .ref 83] rfl ?_
                                  refine ko_iald3 mi_k71.1 (n := 8) (c := 8) (ax := (0, 0, 0, 0, 0)) (mi_k71.2 _ _ (by rfl)) (by rfl) (ksG88 _ _ _ _) (hL50.I.2.1 88) rfl (oz3 p50_2) (oz936 c54 kn8) ?_
                                  have b258 : ((-2147483648 : Int) ≤ ((a50 83).getD l1_4.toNatClampNeg 0).toInt) ∧ (((a50 83).getD l1_4.toNatClampNeg 0).toInt ≤ 2147483647) := kd_bd ((a50 83).getD l1_4.toNatClampNeg 0)
                                  have b259 : ((-2147483648 : Int) ≤ ((a50 88).getD l3_50.toNatClampNeg 0).toInt) ∧ (((a50 88).getD l3_50.toNatClampNeg 0).toInt ≤ 2147483647) := kd_bd ((a50 88).getD l3_50.toNatClampNeg 0)
                                  refine fo_goS mi_k71 fz71_117_1_118 [.int (((a50 83).getD l1_4.toNatClampNeg 0) + ((a50 88).getD l3_50.toNatClampNeg 0)), .int ((a50 83).getD l3_50.toNatClampNeg 0), .int l3_50, .ref 83] rfl ?_
                                  have m261 : (((bif decide ((((a50 83).getD l1_4.toNatClampNeg 0) + ((a50 88).getD l3_50.toNatClampNeg 0)) < ((a50 83).getD l3_50.toNatClampNeg 0)) then (((a50 83).getD l1_4.toNatClampNeg 0) + ((a50 88).getD l3_50.toNatClampNeg 0)) else ((a50 83).getD l3_50.toNatClampNeg 0)).toInt ≤ ((a50 83).getD l3_50.toNatClampNeg 0).toInt) ∧ ((bif decide ((((a50 83).getD l1_4.toNatClampNeg 0) + ((a50 88).getD l3_50.toNatClampNeg 0)) < ((a50 83).getD l3_50.toNatClampNeg 0)) then (((a50 83).getD l1_4.toNatClampNeg 0) + ((a50 88).getD l3_50.toNatClampNeg 0)) else ((a50 83).getD l3_50.toNatClampNeg 0)).toInt ≤ (((a50 83).getD l1_4.toNatClampNeg 0) + ((a50 88).getD l3_50.toNatClampNeg 0)).toInt)) ∧ ((bif decide ((((a50 83).getD l1_4.toNatClampNeg 0) + ((a50 88).getD l3_50.toNatClampNeg 0)) < ((a50 83).getD l3_50.toNatClampNeg 0)) then (((a50 83).getD l1_4.toNatClampNeg 0) + ((a50 88).getD l3_50.toNatClampNeg 0)) else ((a50 83).getD l3_50.toNatClampNeg 0)).toInt = ((a50 83).getD l3_50.toNatClampNeg 0).toInt ∨ (bif decide ((((a50 83).getD l1_4.toNatClampNeg 0) + ((a50 88).getD l3_50.toNatClampNeg 0)) < ((a50 83).getD l3_50.toNatClampNeg 0)) then (((a50 83).getD l1_4.toNatClampNeg 0) + ((a50 88).getD l3_50.toNatClampNeg 0)) else ((a50 83).getD l3_50.toNatClampNeg 0)).toInt = (((a50 83).getD l1_4.toNatClampNeg 0) + ((a50 88).getD l3_50.toNatClampNeg 0)).toInt) := kd_min
                                  first | refine ft_goS mi_k71 1 121 [.int (bif decide ((((a50 83).getD l1_4.toNatClampNeg 0) + ((a50 88).getD l3_50.toNatClampNeg 0)) < ((a50 83).getD l3_50.toNatClampNeg 0)) then (((a50 83).getD l1_4.toNatClampNeg 0) + ((a50 88).getD l3_50.toNatClampNeg 0)) else ((a50 83).getD l3_50.toNatClampNeg 0)), .int l3_50, .ref 83] (by rfl) ?_ | refine ft_go mi_k71 1 121 [(3, .int l3_50), (2, .int l2_45), (1, .int l1_4), (0, .ref 49)] [.int (bif decide ((((a50 83).getD l1_4.toNatClampNeg 0) + ((a50 88).getD l3_50.toNatClampNeg 0)) < ((a50 83).getD l3_50.toNatClampNeg 0)) then (((a50 83).getD l1_4.toNatClampNeg 0) + ((a50 88).getD l3_50.toNatClampNeg 0)) else ((a50 83).getD l3_50.toNatClampNeg 0)), .int l3_50, .ref 83] i50 a50 q50 r50 (by rfl) ?_ | refine ko_steps mi_in71 1 _ (121, [(3, .int l3_50), (2, .int l2_45), (1, .int l1_4), (0, .ref 49)], [.int (bif decide ((((a50 83).getD l1_4.toNatClampNeg 0) + ((a50 88).getD l3_50.toNatClampNeg 0)) < ((a50 83).getD l3_50.toNatClampNeg 0)) then (((a50 83).getD l1_4.toNatClampNeg 0) + ((a50 88).getD l3_50.toNatClampNeg 0)) else ((a50 83).getD l3_50.toNatClampNeg 0)), .int l3_50, .ref 83], (0, 0), ks i50 a50 q50 r50) (by rfl) ?_
                                  generalize (bif decide ((((a50 83).getD l1_4.toNatClampNeg 0) + ((a50 88).getD l3_50.toNatClampNeg 0)) < ((a50 83).getD l3_50.toNatClampNeg 0)) then (((a50 83).getD l1_4.toNatClampNeg 0) + ((a50 88).getD l3_50.toNatClampNeg 0)) else ((a50 83).getD l3_50.toNatClampNeg 0)) = m260 at m261 ⊢
                                  refine ko_iast3 mi_k71.1 (n := 8) (c := 8) (ax := (0, 0, 0, 0, 0)) (mi_k71.2 _ _ (by rfl)) (by rfl) (ksG83 _ _ _ _) (ksA83 _ _ _ _) (hL50.I.2.1 83) rfl (oz3 p50_2) (oz936 c54 kn8) ?_
                                  intro a262 ea262 fa262
                                  have hJ262 := kG_a3 hL50 83 rfl ea262 fa262 (kd_bd _)
                                  have s263 : (l3_50 + 1).toInt = l3_50.toInt + (1 : Int32).toInt := kd_add (oz12 p50_2 kn1) (oz474 c54 kn8 kn1)
                                  first | refine fo_goL mi_k71 fz71_78_2_80 [(3, .int (l3_50 + 1)), (2, .int l2_45), (1, .int l1_4), (0, .ref 49)] [] (by rfl) ?_ | refine fo_goL mi_k71 fz71_122_2_80 [(3, .int (l3_50 + 1)), (2, .int l2_45), (1, .int l1_4), (0, .ref 49)] [] (by rfl) ?_
                                  exact ih50 _ _ _ _ _ hJ262 (oz1027 c44 w257 kn8) (oz1022 c49 w201 kn8) (oz14 p50_2 s263 kn1) (kj_meas (oz475 s263 kn1) (oz476 c54 kn8) hm50)
                                exact (oz1028 c44 p4_0 w208 w215 w222 w229 w236 w243 w250 w257 kn8).elim
                              exact (oz998 w201 w207).elim
                            exact (oz998 w201 w204).elim
                          by_cases w274 : l2_45.toInt = 3
                          ·
                            refine ft_alx mi_k71 (pc := 91) (v := 3) (p := 80) (z := 84) (kj_eq w274 (by decide) : l2_45 = 3) (by decide +kernel) (by decide +kernel) ?_
                            refine fo_goS mi_k71 fz71_92_4_98 [.int l2_45, .ref 80, .int l3_50, .ref 84] rfl ?_
                            by_cases w278 : l2_45.toInt = 3
                            ·
                              refine ft_alx mi_k71 (pc := 98) (v := 3) (p := 80) (z := 84) (kj_eq w278 (by decide) : l2_45 = 3) (by decide +kernel) (by decide +kernel) ?_
                              refine fo_goS mi_k71 fz71_99_1_100 [.int l3_50, .ref 84, .int l3_50, .ref 84] rfl ?_
                              refine ko_iald3 mi_k71.1 (n := 8) (c := 8) (ax := (0, 0, 0, 0, 0)) (mi_k71.2 _ _ (by rfl)) (by rfl) (ksG84 _ _ _ _) (hL50.I.2.1 84) rfl (oz3 p50_2) (oz936 c54 kn8) ?_
                              refine fo_goS mi_k71 fz71_101_3_106 [.int l2_45, .ref 80, .int ((a50 84).getD l3_50.toNatClampNeg 0), .int l3_50, .ref 84] rfl ?_
                              by_cases w282 : l2_45.toInt = 3
                              ·
                                refine ft_alx mi_k71 (pc := 106) (v := 3) (p := 80) (z := 84) (kj_eq w282 (by decide) : l2_45 = 3) (by decide +kernel) (by decide +kernel) ?_
                                refine fo_goS mi_k71 fz71_107_1_108 [.int l1_4, .ref 84, .int ((a50 84).getD l3_50.toNatClampNeg 0), .int l3_50, .ref 84] rfl ?_
                                refine ko_iald3 mi_k71.1 (n := 8) (c := 8) (ax := (0, 0, 0, 0, 0)) (mi_k71.2 _ _ (by rfl)) (by rfl) (ksG84 _ _ _ _) (hL50.I.2.1 84) rfl (oz3 p4_0) (oz936 c44 kn8) ?_
                                refine fo_goS mi_k71 fz71_109_3_114 [.int l1_4, .ref 80, .int ((a50 84).getD l1_4.toNatClampNeg 0), .int ((a50 84).getD l3_50.toNatClampNeg 0), .int l3_50, .ref 84] rfl ?_
                                by_cases w283 : l1_4.toInt = 0
                                ·
                                  refine ft_alx mi_k71 (pc := 114) (v := 0) (p := 80) (z := 81) (kj_eq w283 (by decide) : l1_4 = 0) (by decide +kernel) (by decide +kernel) ?_
                                  refine fo_goS mi_k71 fz71_115_1_116 [.int l3_50, .ref 81, .int ((a50 84).getD l1_4.toNatClampNeg 0), .int ((a50 84).getD l3_50.toNatClampNeg 0), .int l3_50, .ref 84] rfl ?_
                                  refine ko_iald3 mi_k71.1 (n := 8) (c := 8) (ax := (0, 0, 0, 0, 0)) (mi_k71.2 _ _ (by rfl)) (by rfl) (ksG81 _ _ _ _) (hL50.I.2.1 81) rfl (oz3 p50_2) (oz936 c54 kn8) ?_
                                  have b284 : ((-2147483648 : Int) ≤ ((a50 84).getD l1_4.toNatClampNeg 0).toInt) ∧ (((a50 84).getD l1_4.toNatClampNeg 0).toInt ≤ 2147483647) := kd_bd ((a50 84).getD l1_4.toNatClampNeg 0)
                                  have b285 : ((-2147483648 : Int) ≤ ((a50 81).getD l3_50.toNatClampNeg 0).toInt) ∧ (((a50 81).getD l3_50.toNatClampNeg 0).toInt ≤ 2147483647) := kd_bd ((a50 81).getD l3_50.toNatClampNeg 0)
                                  refine fo_goS mi_k71 fz71_117_1_118 [.int (((a50 84).getD l1_4.toNatClampNeg 0) + ((a50 81).getD l3_50.toNatClampNeg 0)), .int ((a50 84).getD l3_50.toNatClampNeg 0), .int l3_50, .ref 84] rfl ?_
                                  have m287 : (((bif decide ((((a50 84).getD l1_4.toNatClampNeg 0) + ((a50 81).getD l3_50.toNatClampNeg 0)) < ((a50 84).getD l3_50.toNatClampNeg 0)) then (((a50 84).getD l1_4.toNatClampNeg 0) + ((a50 81).getD l3_50.toNatClampNeg 0)) else ((a50 84).getD l3_50.toNatClampNeg 0)).toInt ≤ ((a50 84).getD l3_50.toNatClampNeg 0).toInt) ∧ ((bif decide ((((a50 84).getD l1_4.toNatClampNeg 0) + ((a50 81).getD l3_50.toNatClampNeg 0)) < ((a50 84).getD l3_50.toNatClampNeg 0)) then (((a50 84).getD l1_4.toNatClampNeg 0) + ((a50 81).getD l3_50.toNatClampNeg 0)) else ((a50 84).getD l3_50.toNatClampNeg 0)).toInt ≤ (((a50 84).getD l1_4.toNatClampNeg 0) + ((a50 81).getD l3_50.toNatClampNeg 0)).toInt)) ∧ ((bif decide ((((a50 84).getD l1_4.toNatClampNeg 0) + ((a50 81).getD l3_50.toNatClampNeg 0)) < ((a50 84).getD l3_50.toNatClampNeg 0)) then (((a50 84).getD l1_4.toNatClampNeg 0) + ((a50 81).getD l3_50.toNatClampNeg 0)) else ((a50 84).getD l3_50.toNatClampNeg 0)).toInt = ((a50 84).getD l3_50.toNatClampNeg 0).toInt ∨ (bif decide ((((a50 84).getD l1_4.toNatClampNeg 0) + ((a50 81).getD l3_50.toNatClampNeg 0)) < ((a50 84).getD l3_50.toNatClampNeg 0)) then (((a50 84).getD l1_4.toNatClampNeg 0) + ((a50 81).getD l3_50.toNatClampNeg 0)) else ((a50 84).getD l3_50.toNatClampNeg 0)).toInt = (((a50 84).getD l1_4.toNatClampNeg 0) + ((a50 81).getD l3_50.toNatClampNeg 0)).toInt) := kd_min
                                  first | refine ft_goS mi_k71 1 121 [.int (bif decide ((((a50 84).getD l1_4.toNatClampNeg 0) + ((a50 81).getD l3_50.toNatClampNeg 0)) < ((a50 84).getD l3_50.toNatClampNeg 0)) then (((a50 84).getD l1_4.toNatClampNeg 0) + ((a50 81).getD l3_50.toNatClampNeg 0)) else ((a50 84).getD l3_50.toNatClampNeg 0)), .int l3_50, .ref 84] (by rfl) ?_ | refine ft_go mi_k71 1 121 [(3, .int l3_50), (2, .int l2_45), (1, .int l1_4), (0, .ref 49)] [.int (bif decide ((((a50 84).getD l1_4.toNatClampNeg 0) + ((a50 81).getD l3_50.toNatClampNeg 0)) < ((a50 84).getD l3_50.toNatClampNeg 0)) then (((a50 84).getD l1_4.toNatClampNeg 0) + ((a50 81).getD l3_50.toNatClampNeg 0)) else ((a50 84).getD l3_50.toNatClampNeg 0)), .int l3_50, .ref 84] i50 a50 q50 r50 (by rfl) ?_ | refine ko_steps mi_in71 1 _ (121, [(3, .int l3_50), (2, .int l2_45), (1, .int l1_4), (0, .ref 49)], [.int (bif decide ((((a50 84).getD l1_4.toNatClampNeg 0) + ((a50 81).getD l3_50.toNatClampNeg 0)) < ((a50 84).getD l3_50.toNatClampNeg 0)) then (((a50 84).getD l1_4.toNatClampNeg 0) + ((a50 81).getD l3_50.toNatClampNeg 0)) else ((a50 84).getD l3_50.toNatClampNeg 0)), .int l3_50, .ref 84], (0, 0), ks i50 a50 q50 r50) (by rfl) ?_
                                  generalize (bif decide ((((a50 84).getD l1_4.toNatClampNeg 0) + ((a50 81).getD l3_50.toNatClampNeg 0)) < ((a50 84).getD l3_50.toNatClampNeg 0)) then (((a50 84).getD l1_4.toNatClampNeg 0) + ((a50 81).getD l3_50.toNatClampNeg 0)) else ((a50 84).getD l3_50.toNatClampNeg 0)) = m286 at m287 ⊢
                                  refine ko_iast3 mi_k71.1 (n := 8) (c := 8) (ax := (0, 0, 0, 0, 0)) (mi_k71.2 _ _ (by rfl)) (by rfl) (ksG84 _ _ _ _) (ksA84 _ _ _ _) (hL50.I.2.1 84) rfl (oz3 p50_2) (oz936 c54 kn8) ?_
                                  intro a288 ea288 fa288
                                  have hJ288 := kG_a3 hL50 84 rfl ea288 fa288 (kd_bd _)
                                  have s289 : (l3_50 + 1).toInt = l3_50.toInt + (1 : Int32).toInt := kd_add (oz12 p50_2 kn1) (oz474 c54 kn8 kn1)
                                  first | refine fo_goL mi_k71 fz71_78_2_80 [(3, .int (l3_50 + 1)), (2, .int l2_45), (1, .int l1_4), (0, .ref 49)] [] (by rfl) ?_ | refine fo_goL mi_k71 fz71_122_2_80 [(3, .int (l3_50 + 1)), (2, .int l2_45), (1, .int l1_4), (0, .ref 49)] [] (by rfl) ?_
                                  exact ih50 _ _ _ _ _ hJ288 (oz488 c44 p4_0 kn8) (oz1023 c49 w274 kn8) (oz14 p50_2 s289 kn1) (kj_meas (oz475 s289 kn1) (oz476 c54 kn8) hm50)
                                by_cases w290 : l1_4.toInt = 1
                                ·
                                  refine ft_alx mi_k71 (pc := 114) (v := 1) (p := 80) (z := 82) (kj_eq w290 (by decide) : l1_4 = 1) (by decide +kernel) (by decide +kernel) ?_
                                  refine fo_goS mi_k71 fz71_115_1_116 [.int l3_50, .ref 82, .int ((a50 84).getD l1_4.toNatClampNeg 0), .int ((a50 84).getD l3_50.toNatClampNeg 0), .int l3_50, .ref 84] rfl ?_
                                  refine ko_iald3 mi_k71.1 (n := 8) (c := 8) (ax := (0, 0, 0, 0, 0)) (mi_k71.2 _ _ (by rfl)) (by rfl) (ksG82 _ _ _ _) (hL50.I.2.1 82) rfl (oz3 p50_2) (oz936 c54 kn8) ?_
                                  have b291 : ((-2147483648 : Int) ≤ ((a50 84).getD l1_4.toNatClampNeg 0).toInt) ∧ (((a50 84).getD l1_4.toNatClampNeg 0).toInt ≤ 2147483647) := kd_bd ((a50 84).getD l1_4.toNatClampNeg 0)
                                  have b292 : ((-2147483648 : Int) ≤ ((a50 82).getD l3_50.toNatClampNeg 0).toInt) ∧ (((a50 82).getD l3_50.toNatClampNeg 0).toInt ≤ 2147483647) := kd_bd ((a50 82).getD l3_50.toNatClampNeg 0)
                                  refine fo_goS mi_k71 fz71_117_1_118 [.int (((a50 84).getD l1_4.toNatClampNeg 0) + ((a50 82).getD l3_50.toNatClampNeg 0)), .int ((a50 84).getD l3_50.toNatClampNeg 0), .int l3_50, .ref 84] rfl ?_
                                  have m294 : (((bif decide ((((a50 84).getD l1_4.toNatClampNeg 0) + ((a50 82).getD l3_50.toNatClampNeg 0)) < ((a50 84).getD l3_50.toNatClampNeg 0)) then (((a50 84).getD l1_4.toNatClampNeg 0) + ((a50 82).getD l3_50.toNatClampNeg 0)) else ((a50 84).getD l3_50.toNatClampNeg 0)).toInt ≤ ((a50 84).getD l3_50.toNatClampNeg 0).toInt) ∧ ((bif decide ((((a50 84).getD l1_4.toNatClampNeg 0) + ((a50 82).getD l3_50.toNatClampNeg 0)) < ((a50 84).getD l3_50.toNatClampNeg 0)) then (((a50 84).getD l1_4.toNatClampNeg 0) + ((a50 82).getD l3_50.toNatClampNeg 0)) else ((a50 84).getD l3_50.toNatClampNeg 0)).toInt ≤ (((a50 84).getD l1_4.toNatClampNeg 0) + ((a50 82).getD l3_50.toNatClampNeg 0)).toInt)) ∧ ((bif decide ((((a50 84).getD l1_4.toNatClampNeg 0) + ((a50 82).getD l3_50.toNatClampNeg 0)) < ((a50 84).getD l3_50.toNatClampNeg 0)) then (((a50 84).getD l1_4.toNatClampNeg 0) + ((a50 82).getD l3_50.toNatClampNeg 0)) else ((a50 84).getD l3_50.toNatClampNeg 0)).toInt = ((a50 84).getD l3_50.toNatClampNeg 0).toInt ∨ (bif decide ((((a50 84).getD l1_4.toNatClampNeg 0) + ((a50 82).getD l3_50.toNatClampNeg 0)) < ((a50 84).getD l3_50.toNatClampNeg 0)) then (((a50 84).getD l1_4.toNatClampNeg 0) + ((a50 82).getD l3_50.toNatClampNeg 0)) else ((a50 84).getD l3_50.toNatClampNeg 0)).toInt = (((a50 84).getD l1_4.toNatClampNeg 0) + ((a50 82).getD l3_50.toNatClampNeg 0)).toInt) := kd_min
                                  first | refine ft_goS mi_k71 1 121 [.int (bif decide ((((a50 84).getD l1_4.toNatClampNeg 0) + ((a50 82).getD l3_50.toNatClampNeg 0)) < ((a50 84).getD l3_50.toNatClampNeg 0)) then (((a50 84).getD l1_4.toNatClampNeg 0) + ((a50 82).getD l3_50.toNatClampNeg 0)) else ((a50 84).getD l3_50.toNatClampNeg 0)), .int l3_50, .ref 84] (by rfl) ?_ | refine ft_go mi_k71 1 121 [(3, .int l3_50), (2, .int l2_45), (1, .int l1_4), (0, .ref 49)] [.int (bif decide ((((a50 84).getD l1_4.toNatClampNeg 0) + ((a50 82).getD l3_50.toNatClampNeg 0)) < ((a50 84).getD l3_50.toNatClampNeg 0)) then (((a50 84).getD l1_4.toNatClampNeg 0) + ((a50 82).getD l3_50.toNatClampNeg 0)) else ((a50 84).getD l3_50.toNatClampNeg 0)), .int l3_50, .ref 84] i50 a50 q50 r50 (by rfl) ?_ | refine ko_steps mi_in71 1 _ (121, [(3, .int l3_50), (2, .int l2_45), (1, .int l1_4), (0, .ref 49)], [.int (bif decide ((((a50 84).getD l1_4.toNatClampNeg 0) + ((a50 82).getD l3_50.toNatClampNeg 0)) < ((a50 84).getD l3_50.toNatClampNeg 0)) then (((a50 84).getD l1_4.toNatClampNeg 0) + ((a50 82).getD l3_50.toNatClampNeg 0)) else ((a50 84).getD l3_50.toNatClampNeg 0)), .int l3_50, .ref 84], (0, 0), ks i50 a50 q50 r50) (by rfl) ?_
                                  generalize (bif decide ((((a50 84).getD l1_4.toNatClampNeg 0) + ((a50 82).getD l3_50.toNatClampNeg 0)) < ((a50 84).getD l3_50.toNatClampNeg 0)) then (((a50 84).getD l1_4.toNatClampNeg 0) + ((a50 82).getD l3_50.toNatClampNeg 0)) else ((a50 84).getD l3_50.toNatClampNeg 0)) = m293 at m294 ⊢
                                  refine ko_iast3 mi_k71.1 (n := 8) (c := 8) (ax := (0, 0, 0, 0, 0)) (mi_k71.2 _ _ (by rfl)) (by rfl) (ksG84 _ _ _ _) (ksA84 _ _ _ _) (hL50.I.2.1 84) rfl (oz3 p50_2) (oz936 c54 kn8) ?_
                                  intro a295 ea295 fa295
                                  have hJ295 := kG_a3 hL50 84 rfl ea295 fa295 (kd_bd _)
                                  have s296 : (l3_50 + 1).toInt = l3_50.toInt + (1 : Int32).toInt := kd_add (oz12 p50_2 kn1) (oz474 c54 kn8 kn1)
                                  first | refine fo_goL mi_k71 fz71_78_2_80 [(3, .int (l3_50 + 1)), (2, .int l2_45), (1, .int l1_4), (0, .ref 49)] [] (by rfl) ?_ | refine fo_goL mi_k71 fz71_122_2_80 [(3, .int (l3_50 + 1)), (2, .int l2_45), (1, .int l1_4), (0, .ref 49)] [] (by rfl) ?_
                                  exact ih50 _ _ _ _ _ hJ295 (oz1021 c44 w290 kn8) (oz1023 c49 w274 kn8) (oz14 p50_2 s296 kn1) (kj_meas (oz475 s296 kn1) (oz476 c54 kn8) hm50)
                                by_cases w297 : l1_4.toInt = 2
                                ·
                                  refine ft_alx mi_k71 (pc := 114) (v := 2) (p := 80) (z := 83) (kj_eq w297 (by decide) : l1_4 = 2) (by decide +kernel) (by decide +kernel) ?_
                                  refine fo_goS mi_k71 fz71_115_1_116 [.int l3_50, .ref 83, .int ((a50 84).getD l1_4.toNatClampNeg 0), .int ((a50 84).getD l3_50.toNatClampNeg 0), .int l3_50, .ref 84] rfl ?_
                                  refine ko_iald3 mi_k71.1 (n := 8) (c := 8) (ax := (0, 0, 0, 0, 0)) (mi_k71.2 _ _ (by rfl)) (by rfl) (ksG83 _ _ _ _) (hL50.I.2.1 83) rfl (oz3 p50_2) (oz936 c54 kn8) ?_
                                  have b298 : ((-2147483648 : Int) ≤ ((a50 84).getD l1_4.toNatClampNeg 0).toInt) ∧ (((a50 84).getD l1_4.toNatClampNeg 0).toInt ≤ 2147483647) := kd_bd ((a50 84).getD l1_4.toNatClampNeg 0)
                                  have b299 : ((-2147483648 : Int) ≤ ((a50 83).getD l3_50.toNatClampNeg 0).toInt) ∧ (((a50 83).getD l3_50.toNatClampNeg 0).toInt ≤ 2147483647) := kd_bd ((a50 83).getD l3_50.toNatClampNeg 0)
                                  refine fo_goS mi_k71 fz71_117_1_118 [.int (((a50 84).getD l1_4.toNatClampNeg 0) + ((a50 83).getD l3_50.toNatClampNeg 0)), .int ((a50 84).getD l3_50.toNatClampNeg 0), .int l3_50, .ref 84] rfl ?_
                                  have m301 : (((bif decide ((((a50 84).getD l1_4.toNatClampNeg 0) + ((a50 83).getD l3_50.toNatClampNeg 0)) < ((a50 84).getD l3_50.toNatClampNeg 0)) then (((a50 84).getD l1_4.toNatClampNeg 0) + ((a50 83).getD l3_50.toNatClampNeg 0)) else ((a50 84).getD l3_50.toNatClampNeg 0)).toInt ≤ ((a50 84).getD l3_50.toNatClampNeg 0).toInt) ∧ ((bif decide ((((a50 84).getD l1_4.toNatClampNeg 0) + ((a50 83).getD l3_50.toNatClampNeg 0)) < ((a50 84).getD l3_50.toNatClampNeg 0)) then (((a50 84).getD l1_4.toNatClampNeg 0) + ((a50 83).getD l3_50.toNatClampNeg 0)) else ((a50 84).getD l3_50.toNatClampNeg 0)).toInt ≤ (((a50 84).getD l1_4.toNatClampNeg 0) + ((a50 83).getD l3_50.toNatClampNeg 0)).toInt)) ∧ ((bif decide ((((a50 84).getD l1_4.toNatClampNeg 0) + ((a50 83).getD l3_50.toNatClampNeg 0)) < ((a50 84).getD l3_50.toNatClampNeg 0)) then (((a50 84).getD l1_4.toNatClampNeg 0) + ((a50 83).getD l3_50.toNatClampNeg 0)) else ((a50 84).getD l3_50.toNatClampNeg 0)).toInt = ((a50 84).getD l3_50.toNatClampNeg 0).toInt ∨ (bif decide ((((a50 84).getD l1_4.toNatClampNeg 0) + ((a50 83).getD l3_50.toNatClampNeg 0)) < ((a50 84).getD l3_50.toNatClampNeg 0)) then (((a50 84).getD l1_4.toNatClampNeg 0) + ((a50 83).getD l3_50.toNatClampNeg 0)) else ((a50 84).getD l3_50.toNatClampNeg 0)).toInt = (((a50 84).getD l1_4.toNatClampNeg 0) + ((a50 83).getD l3_50.toNatClampNeg 0)).toInt) := kd_min
                                  first | refine ft_goS mi_k71 1 121 [.int (bif decide ((((a50 84).getD l1_4.toNatClampNeg 0) + ((a50 83).getD l3_50.toNatClampNeg 0)) < ((a50 84).getD l3_50.toNatClampNeg 0)) then (((a50 84).getD l1_4.toNatClampNeg 0) + ((a50 83).getD l3_50.toNatClampNeg 0)) else ((a50 84).getD l3_50.toNatClampNeg 0)), .int l3_50, .ref 84] (by rfl) ?_ | refine ft_go mi_k71 1 121 [(3, .int l3_50), (2, .int l2_45), (1, .int l1_4), (0, .ref 49)] [.int (bif decide ((((a50 84).getD l1_4.toNatClampNeg 0) + ((a50 83).getD l3_50.toNatClampNeg 0)) < ((a50 84).getD l3_50.toNatClampNeg 0)) then (((a50 84).getD l1_4.toNatClampNeg 0) + ((a50 83).getD l3_50.toNatClampNeg 0)) else ((a50 84).getD l3_50.toNatClampNeg 0)), .int l3_50, .ref 84] i50 a50 q50 r50 (by rfl) ?_ | refine ko_steps mi_in71 1 _ (121, [(3, .int l3_50), (2, .int l2_45), (1, .int l1_4), (0, .ref 49)], [.int (bif decide ((((a50 84).getD l1_4.toNatClampNeg 0) + ((a50 83).getD l3_50.toNatClampNeg 0)) < ((a50 84).getD l3_50.toNatClampNeg 0)) then (((a50 84).getD l1_4.toNatClampNeg 0) + ((a50 83).getD l3_50.toNatClampNeg 0)) else ((a50 84).getD l3_50.toNatClampNeg 0)), .int l3_50, .ref 84], (0, 0), ks i50 a50 q50 r50) (by rfl) ?_
                                  generalize (bif decide ((((a50 84).getD l1_4.toNatClampNeg 0) + ((a50 83).getD l3_50.toNatClampNeg 0)) < ((a50 84).getD l3_50.toNatClampNeg 0)) then (((a50 84).getD l1_4.toNatClampNeg 0) + ((a50 83).getD l3_50.toNatClampNeg 0)) else ((a50 84).getD l3_50.toNatClampNeg 0)) = m300 at m301 ⊢
                                  refine ko_iast3 mi_k71.1 (n := 8) (c := 8) (ax := (0, 0, 0, 0, 0)) (mi_k71.2 _ _ (by rfl)) (by rfl) (ksG84 _ _ _ _) (ksA84 _ _ _ _) (hL50.I.2.1 84) rfl (oz3 p50_2) (oz936 c54 kn8) ?_
                                  intro a302 ea302 fa302
                                  have hJ302 := kG_a3 hL50 84 rfl ea302 fa302 (kd_bd _)
                                  have s303 : (l3_50 + 1).toInt = l3_50.toInt + (1 : Int32).toInt := kd_add (oz12 p50_2 kn1) (oz474 c54 kn8 kn1)
                                  first | refine fo_goL mi_k71 fz71_78_2_80 [(3, .int (l3_50 + 1)), (2, .int l2_45), (1, .int l1_4), (0, .ref 49)] [] (by rfl) ?_ | refine fo_goL mi_k71 fz71_122_2_80 [(3, .int (l3_50 + 1)), (2, .int l2_45), (1, .int l1_4), (0, .ref 49)] [] (by rfl) ?_
                                  exact ih50 _ _ _ _ _ hJ302 (oz1022 c44 w297 kn8) (oz1023 c49 w274 kn8) (oz14 p50_2 s303 kn1) (kj_meas (oz475 s303 kn1) (oz476 c54 kn8) hm50)
                                by_cases w304 : l1_4.toInt = 3
                                ·
                                  refine ft_alx mi_k71 (pc := 114) (v := 3) (p := 80) (z := 84) (kj_eq w304 (by decide) : l1_4 = 3) (by decide +kernel) (by decide +kernel) ?_
                                  refine fo_goS mi_k71 fz71_115_1_116 [.int l3_50, .ref 84, .int ((a50 84).getD l1_4.toNatClampNeg 0), .int ((a50 84).getD l3_50.toNatClampNeg 0), .int l3_50, .ref 84] rfl ?_
                                  refine ko_iald3 mi_k71.1 (n := 8) (c := 8) (ax := (0, 0, 0, 0, 0)) (mi_k71.2 _ _ (by rfl)) (by rfl) (ksG84 _ _ _ _) (hL50.I.2.1 84) rfl (oz3 p50_2) (oz936 c54 kn8) ?_
                                  have b305 : ((-2147483648 : Int) ≤ ((a50 84).getD l1_4.toNatClampNeg 0).toInt) ∧ (((a50 84).getD l1_4.toNatClampNeg 0).toInt ≤ 2147483647) := kd_bd ((a50 84).getD l1_4.toNatClampNeg 0)
                                  have b306 : ((-2147483648 : Int) ≤ ((a50 84).getD l3_50.toNatClampNeg 0).toInt) ∧ (((a50 84).getD l3_50.toNatClampNeg 0).toInt ≤ 2147483647) := kd_bd ((a50 84).getD l3_50.toNatClampNeg 0)
                                  refine fo_goS mi_k71 fz71_117_1_118 [.int (((a50 84).getD l1_4.toNatClampNeg 0) + ((a50 84).getD l3_50.toNatClampNeg 0)), .int ((a50 84).getD l3_50.toNatClampNeg 0), .int l3_50, .ref 84] rfl ?_
                                  have m308 : (((bif decide ((((a50 84).getD l1_4.toNatClampNeg 0) + ((a50 84).getD l3_50.toNatClampNeg 0)) < ((a50 84).getD l3_50.toNatClampNeg 0)) then (((a50 84).getD l1_4.toNatClampNeg 0) + ((a50 84).getD l3_50.toNatClampNeg 0)) else ((a50 84).getD l3_50.toNatClampNeg 0)).toInt ≤ ((a50 84).getD l3_50.toNatClampNeg 0).toInt) ∧ ((bif decide ((((a50 84).getD l1_4.toNatClampNeg 0) + ((a50 84).getD l3_50.toNatClampNeg 0)) < ((a50 84).getD l3_50.toNatClampNeg 0)) then (((a50 84).getD l1_4.toNatClampNeg 0) + ((a50 84).getD l3_50.toNatClampNeg 0)) else ((a50 84).getD l3_50.toNatClampNeg 0)).toInt ≤ (((a50 84).getD l1_4.toNatClampNeg 0) + ((a50 84).getD l3_50.toNatClampNeg 0)).toInt)) ∧ ((bif decide ((((a50 84).getD l1_4.toNatClampNeg 0) + ((a50 84).getD l3_50.toNatClampNeg 0)) < ((a50 84).getD l3_50.toNatClampNeg 0)) then (((a50 84).getD l1_4.toNatClampNeg 0) + ((a50 84).getD l3_50.toNatClampNeg 0)) else ((a50 84).getD l3_50.toNatClampNeg 0)).toInt = ((a50 84).getD l3_50.toNatClampNeg 0).toInt ∨ (bif decide ((((a50 84).getD l1_4.toNatClampNeg 0) + ((a50 84).getD l3_50.toNatClampNeg 0)) < ((a50 84).getD l3_50.toNatClampNeg 0)) then (((a50 84).getD l1_4.toNatClampNeg 0) + ((a50 84).getD l3_50.toNatClampNeg 0)) else ((a50 84).getD l3_50.toNatClampNeg 0)).toInt = (((a50 84).getD l1_4.toNatClampNeg 0) + ((a50 84).getD l3_50.toNatClampNeg 0)).toInt) := kd_min
                                  first | refine ft_goS mi_k71 1 121 [.int (bif decide ((((a50 84).getD l1_4.toNatClampNeg 0) + ((a50 84).getD l3_50.toNatClampNeg 0)) < ((a50 84).getD l3_50.toNatClampNeg 0)) then (((a50 84).getD l1_4.toNatClampNeg 0) + ((a50 84).getD l3_50.toNatClampNeg 0)) else ((a50 84).getD l3_50.toNatClampNeg 0)), .int l3_50, .ref 84] (by rfl) ?_ | refine ft_go mi_k71 1 121 [(3, .int l3_50), (2, .int l2_45), (1, .int l1_4), (0, .ref 49)] [.int (bif decide ((((a50 84).getD l1_4.toNatClampNeg 0) + ((a50 84).getD l3_50.toNatClampNeg 0)) < ((a50 84).getD l3_50.toNatClampNeg 0)) then (((a50 84).getD l1_4.toNatClampNeg 0) + ((a50 84).getD l3_50.toNatClampNeg 0)) else ((a50 84).getD l3_50.toNatClampNeg 0)), .int l3_50, .ref 84] i50 a50 q50 r50 (by rfl) ?_ | refine ko_steps mi_in71 1 _ (121, [(3, .int l3_50), (2, .int l2_45), (1, .int l1_4), (0, .ref 49)], [.int (bif decide ((((a50 84).getD l1_4.toNatClampNeg 0) + ((a50 84).getD l3_50.toNatClampNeg 0)) < ((a50 84).getD l3_50.toNatClampNeg 0)) then (((a50 84).getD l1_4.toNatClampNeg 0) + ((a50 84).getD l3_50.toNatClampNeg 0)) else ((a50 84).getD l3_50.toNatClampNeg 0)), .int l3_50, .ref 84], (0, 0), ks i50 a50 q50 r50) (by rfl) ?_
                                  generalize (bif decide ((((a50 84).getD l1_4.toNatClampNeg 0) + ((a50 84).getD l3_50.toNatClampNeg 0)) < ((a50 84).getD l3_50.toNatClampNeg 0)) then (((a50 84).getD l1_4.toNatClampNeg 0) + ((a50 84).getD l3_50.toNatClampNeg 0)) else ((a50 84).getD l3_50.toNatClampNeg 0)) = m307 at m308 ⊢
                                  refine ko_iast3 mi_k71.1 (n := 8) (c := 8) (ax := (0, 0, 0, 0, 0)) (mi_k71.2 _ _ (by rfl)) (by rfl) (ksG84 _ _ _ _) (ksA84 _ _ _ _) (hL50.I.2.1 84) rfl (oz3 p50_2) (oz936 c54 kn8) ?_
                                  intro a309 ea309 fa309
                                  have hJ309 := kG_a3 hL50 84 rfl ea309 fa309 (kd_bd _)
                                  have s310 : (l3_50 + 1).toInt = l3_50.toInt + (1 : Int32).toInt := kd_add (oz12 p50_2 kn1) (oz474 c54 kn8 kn1)
                                  first | refine fo_goL mi_k71 fz71_78_2_80 [(3, .int (l3_50 + 1)), (2, .int l2_45), (1, .int l1_4), (0, .ref 49)] [] (by rfl) ?_ | refine fo_goL mi_k71 fz71_122_2_80 [(3, .int (l3_50 + 1)), (2, .int l2_45), (1, .int l1_4), (0, .ref 49)] [] (by rfl) ?_
                                  exact ih50 _ _ _ _ _ hJ309 (oz1023 c44 w304 kn8) (oz1023 c49 w274 kn8) (oz14 p50_2 s310 kn1) (kj_meas (oz475 s310 kn1) (oz476 c54 kn8) hm50)
                                by_cases w311 : l1_4.toInt = 4
                                ·
                                  refine ft_alx mi_k71 (pc := 114) (v := 4) (p := 80) (z := 85) (kj_eq w311 (by decide) : l1_4 = 4) (by decide +kernel) (by decide +kernel) ?_
                                  refine fo_goS mi_k71 fz71_115_1_116 [.int l3_50, .ref 85, .int ((a50 84).getD l1_4.toNatClampNeg 0), .int ((a50 84).getD l3_50.toNatClampNeg 0), .int l3_50, .ref 84] rfl ?_
                                  refine ko_iald3 mi_k71.1 (n := 8) (c := 8) (ax := (0, 0, 0, 0, 0)) (mi_k71.2 _ _ (by rfl)) (by rfl) (ksG85 _ _ _ _) (hL50.I.2.1 85) rfl (oz3 p50_2) (oz936 c54 kn8) ?_
                                  have b312 : ((-2147483648 : Int) ≤ ((a50 84).getD l1_4.toNatClampNeg 0).toInt) ∧ (((a50 84).getD l1_4.toNatClampNeg 0).toInt ≤ 2147483647) := kd_bd ((a50 84).getD l1_4.toNatClampNeg 0)
                                  have b313 : ((-2147483648 : Int) ≤ ((a50 85).getD l3_50.toNatClampNeg 0).toInt) ∧ (((a50 85).getD l3_50.toNatClampNeg 0).toInt ≤ 2147483647) := kd_bd ((a50 85).getD l3_50.toNatClampNeg 0)
                                  refine fo_goS mi_k71 fz71_117_1_118 [.int (((a50 84).getD l1_4.toNatClampNeg 0) + ((a50 85).getD l3_50.toNatClampNeg 0)), .int ((a50 84).getD l3_50.toNatClampNeg 0), .int l3_50, .ref 84] rfl ?_
                                  have m315 : (((bif decide ((((a50 84).getD l1_4.toNatClampNeg 0) + ((a50 85).getD l3_50.toNatClampNeg 0)) < ((a50 84).getD l3_50.toNatClampNeg 0)) then (((a50 84).getD l1_4.toNatClampNeg 0) + ((a50 85).getD l3_50.toNatClampNeg 0)) else ((a50 84).getD l3_50.toNatClampNeg 0)).toInt ≤ ((a50 84).getD l3_50.toNatClampNeg 0).toInt) ∧ ((bif decide ((((a50 84).getD l1_4.toNatClampNeg 0) + ((a50 85).getD l3_50.toNatClampNeg 0)) < ((a50 84).getD l3_50.toNatClampNeg 0)) then (((a50 84).getD l1_4.toNatClampNeg 0) + ((a50 85).getD l3_50.toNatClampNeg 0)) else ((a50 84).getD l3_50.toNatClampNeg 0)).toInt ≤ (((a50 84).getD l1_4.toNatClampNeg 0) + ((a50 85).getD l3_50.toNatClampNeg 0)).toInt)) ∧ ((bif decide ((((a50 84).getD l1_4.toNatClampNeg 0) + ((a50 85).getD l3_50.toNatClampNeg 0)) < ((a50 84).getD l3_50.toNatClampNeg 0)) then (((a50 84).getD l1_4.toNatClampNeg 0) + ((a50 85).getD l3_50.toNatClampNeg 0)) else ((a50 84).getD l3_50.toNatClampNeg 0)).toInt = ((a50 84).getD l3_50.toNatClampNeg 0).toInt ∨ (bif decide ((((a50 84).getD l1_4.toNatClampNeg 0) + ((a50 85).getD l3_50.toNatClampNeg 0)) < ((a50 84).getD l3_50.toNatClampNeg 0)) then (((a50 84).getD l1_4.toNatClampNeg 0) + ((a50 85).getD l3_50.toNatClampNeg 0)) else ((a50 84).getD l3_50.toNatClampNeg 0)).toInt = (((a50 84).getD l1_4.toNatClampNeg 0) + ((a50 85).getD l3_50.toNatClampNeg 0)).toInt) := kd_min
                                  first | refine ft_goS mi_k71 1 121 [.int (bif decide ((((a50 84).getD l1_4.toNatClampNeg 0) + ((a50 85).getD l3_50.toNatClampNeg 0)) < ((a50 84).getD l3_50.toNatClampNeg 0)) then (((a50 84).getD l1_4.toNatClampNeg 0) + ((a50 85).getD l3_50.toNatClampNeg 0)) else ((a50 84).getD l3_50.toNatClampNeg 0)), .int l3_50, .ref 84] (by rfl) ?_ | refine ft_go mi_k71 1 121 [(3, .int l3_50), (2, .int l2_45), (1, .int l1_4), (0, .ref 49)] [.int (bif decide ((((a50 84).getD l1_4.toNatClampNeg 0) + ((a50 85).getD l3_50.toNatClampNeg 0)) < ((a50 84).getD l3_50.toNatClampNeg 0)) then (((a50 84).getD l1_4.toNatClampNeg 0) + ((a50 85).getD l3_50.toNatClampNeg 0)) else ((a50 84).getD l3_50.toNatClampNeg 0)), .int l3_50, .ref 84] i50 a50 q50 r50 (by rfl) ?_ | refine ko_steps mi_in71 1 _ (121, [(3, .int l3_50), (2, .int l2_45), (1, .int l1_4), (0, .ref 49)], [.int (bif decide ((((a50 84).getD l1_4.toNatClampNeg 0) + ((a50 85).getD l3_50.toNatClampNeg 0)) < ((a50 84).getD l3_50.toNatClampNeg 0)) then (((a50 84).getD l1_4.toNatClampNeg 0) + ((a50 85).getD l3_50.toNatClampNeg 0)) else ((a50 84).getD l3_50.toNatClampNeg 0)), .int l3_50, .ref 84], (0, 0), ks i50 a50 q50 r50) (by rfl) ?_
                                  generalize (bif decide ((((a50 84).getD l1_4.toNatClampNeg 0) + ((a50 85).getD l3_50.toNatClampNeg 0)) < ((a50 84).getD l3_50.toNatClampNeg 0)) then (((a50 84).getD l1_4.toNatClampNeg 0) + ((a50 85).getD l3_50.toNatClampNeg 0)) else ((a50 84).getD l3_50.toNatClampNeg 0)) = m314 at m315 ⊢
                                  refine ko_iast3 mi_k71.1 (n := 8) (c := 8) (ax := (0, 0, 0, 0, 0)) (mi_k71.2 _ _ (by rfl)) (by rfl) (ksG84 _ _ _ _) (ksA84 _ _ _ _) (hL50.I.2.1 84) rfl (oz3 p50_2) (oz936 c54 kn8) ?_
                                  intro a316 ea316 fa316
                                  have hJ316 := kG_a3 hL50 84 rfl ea316 fa316 (kd_bd _)
                                  have s317 : (l3_50 + 1).toInt = l3_50.toInt + (1 : Int32).toInt := kd_add (oz12 p50_2 kn1) (oz474 c54 kn8 kn1)
                                  first | refine fo_goL mi_k71 fz71_78_2_80 [(3, .int (l3_50 + 1)), (2, .int l2_45), (1, .int l1_4), (0, .ref 49)] [] (by rfl) ?_ | refine fo_goL mi_k71 fz71_122_2_80 [(3, .int (l3_50 + 1)), (2, .int l2_45), (1, .int l1_4), (0, .ref 49)] [] (by rfl) ?_
                                  exact ih50 _ _ _ _ _ hJ316 (oz1024 c44 w311 kn8) (oz1023 c49 w274 kn8) (oz14 p50_2 s317 kn1) (kj_meas (oz475 s317 kn1) (oz476 c54 kn8) hm50)
                                by_cases w318 : l1_4.toInt = 5
                                ·
                                  refine ft_alx mi_k71 (pc := 114) (v := 5) (p := 80) (z := 86) (kj_eq w318 (by decide) : l1_4 = 5) (by decide +kernel) (by decide +kernel) ?_
                                  refine fo_goS mi_k71 fz71_115_1_116 [.int l3_50, .ref 86, .int ((a50 84).getD l1_4.toNatClampNeg 0), .int ((a50 84).getD l3_50.toNatClampNeg 0), .int l3_50, .ref 84] rfl ?_
                                  refine ko_iald3 mi_k71.1 (n := 8) (c := 8) (ax := (0, 0, 0, 0, 0)) (mi_k71.2 _ _ (by rfl)) (by rfl) (ksG86 _ _ _ _) (hL50.I.2.1 86) rfl (oz3 p50_2) (oz936 c54 kn8) ?_
                                  have b319 : ((-2147483648 : Int) ≤ ((a50 84).getD l1_4.toNatClampNeg 0).toInt) ∧ (((a50 84).getD l1_4.toNatClampNeg 0).toInt ≤ 2147483647) := kd_bd ((a50 84).getD l1_4.toNatClampNeg 0)
                                  have b320 : ((-2147483648 : Int) ≤ ((a50 86).getD l3_50.toNatClampNeg 0).toInt) ∧ (((a50 86).getD l3_50.toNatClampNeg 0).toInt ≤ 2147483647) := kd_bd ((a50 86).getD l3_50.toNatClampNeg 0)
                                  refine fo_goS mi_k71 fz71_117_1_118 [.int (((a50 84).getD l1_4.toNatClampNeg 0) + ((a50 86).getD l3_50.toNatClampNeg 0)), .int ((a50 84).getD l3_50.toNatClampNeg 0), .int l3_50, .ref 84] rfl ?_
                                  have m322 : (((bif decide ((((a50 84).getD l1_4.toNatClampNeg 0) + ((a50 86).getD l3_50.toNatClampNeg 0)) < ((a50 84).getD l3_50.toNatClampNeg 0)) then (((a50 84).getD l1_4.toNatClampNeg 0) + ((a50 86).getD l3_50.toNatClampNeg 0)) else ((a50 84).getD l3_50.toNatClampNeg 0)).toInt ≤ ((a50 84).getD l3_50.toNatClampNeg 0).toInt) ∧ ((bif decide ((((a50 84).getD l1_4.toNatClampNeg 0) + ((a50 86).getD l3_50.toNatClampNeg 0)) < ((a50 84).getD l3_50.toNatClampNeg 0)) then (((a50 84).getD l1_4.toNatClampNeg 0) + ((a50 86).getD l3_50.toNatClampNeg 0)) else ((a50 84).getD l3_50.toNatClampNeg 0)).toInt ≤ (((a50 84).getD l1_4.toNatClampNeg 0) + ((a50 86).getD l3_50.toNatClampNeg 0)).toInt)) ∧ ((bif decide ((((a50 84).getD l1_4.toNatClampNeg 0) + ((a50 86).getD l3_50.toNatClampNeg 0)) < ((a50 84).getD l3_50.toNatClampNeg 0)) then (((a50 84).getD l1_4.toNatClampNeg 0) + ((a50 86).getD l3_50.toNatClampNeg 0)) else ((a50 84).getD l3_50.toNatClampNeg 0)).toInt = ((a50 84).getD l3_50.toNatClampNeg 0).toInt ∨ (bif decide ((((a50 84).getD l1_4.toNatClampNeg 0) + ((a50 86).getD l3_50.toNatClampNeg 0)) < ((a50 84).getD l3_50.toNatClampNeg 0)) then (((a50 84).getD l1_4.toNatClampNeg 0) + ((a50 86).getD l3_50.toNatClampNeg 0)) else ((a50 84).getD l3_50.toNatClampNeg 0)).toInt = (((a50 84).getD l1_4.toNatClampNeg 0) + ((a50 86).getD l3_50.toNatClampNeg 0)).toInt) := kd_min
                                  first | refine ft_goS mi_k71 1 121 [.int (bif decide ((((a50 84).getD l1_4.toNatClampNeg 0) + ((a50 86).getD l3_50.toNatClampNeg 0)) < ((a50 84).getD l3_50.toNatClampNeg 0)) then (((a50 84).getD l1_4.toNatClampNeg 0) + ((a50 86).getD l3_50.toNatClampNeg 0)) else ((a50 84).getD l3_50.toNatClampNeg 0)), .int l3_50, .ref 84] (by rfl) ?_ | refine ft_go mi_k71 1 121 [(3, .int l3_50), (2, .int l2_45), (1, .int l1_4), (0, .ref 49)] [.int (bif decide ((((a50 84).getD l1_4.toNatClampNeg 0) + ((a50 86).getD l3_50.toNatClampNeg 0)) < ((a50 84).getD l3_50.toNatClampNeg 0)) then (((a50 84).getD l1_4.toNatClampNeg 0) + ((a50 86).getD l3_50.toNatClampNeg 0)) else ((a50 84).getD l3_50.toNatClampNeg 0)), .int l3_50, .ref 84] i50 a50 q50 r50 (by rfl) ?_ | refine ko_steps mi_in71 1 _ (121, [(3, .int l3_50), (2, .int l2_45), (1, .int l1_4), (0, .ref 49)], [.int (bif decide ((((a50 84).getD l1_4.toNatClampNeg 0) + ((a50 86).getD l3_50.toNatClampNeg 0)) < ((a50 84).getD l3_50.toNatClampNeg 0)) then (((a50 84).getD l1_4.toNatClampNeg 0) + ((a50 86).getD l3_50.toNatClampNeg 0)) else ((a50 84).getD l3_50.toNatClampNeg 0)), .int l3_50, .ref 84], (0, 0), ks i50 a50 q50 r50) (by rfl) ?_
                                  generalize (bif decide ((((a50 84).getD l1_4.toNatClampNeg 0) + ((a50 86).getD l3_50.toNatClampNeg 0)) < ((a50 84).getD l3_50.toNatClampNeg 0)) then (((a50 84).getD l1_4.toNatClampNeg 0) + ((a50 86).getD l3_50.toNatClampNeg 0)) else ((a50 84).getD l3_50.toNatClampNeg 0)) = m321 at m322 ⊢
                                  refine ko_iast3 mi_k71.1 (n := 8) (c := 8) (ax := (0, 0, 0, 0, 0)) (mi_k71.2 _ _ (by rfl)) (by rfl) (ksG84 _ _ _ _) (ksA84 _ _ _ _) (hL50.I.2.1 84) rfl (oz3 p50_2) (oz936 c54 kn8) ?_
                                  intro a323 ea323 fa323
                                  have hJ323 := kG_a3 hL50 84 rfl ea323 fa323 (kd_bd _)
                                  have s324 : (l3_50 + 1).toInt = l3_50.toInt + (1 : Int32).toInt := kd_add (oz12 p50_2 kn1) (oz474 c54 kn8 kn1)
                                  first | refine fo_goL mi_k71 fz71_78_2_80 [(3, .int (l3_50 + 1)), (2, .int l2_45), (1, .int l1_4), (0, .ref 49)] [] (by rfl) ?_ | refine fo_goL mi_k71 fz71_122_2_80 [(3, .int (l3_50 + 1)), (2, .int l2_45), (1, .int l1_4), (0, .ref 49)] [] (by rfl) ?_
                                  exact ih50 _ _ _ _ _ hJ323 (oz1025 c44 w318 kn8) (oz1023 c49 w274 kn8) (oz14 p50_2 s324 kn1) (kj_meas (oz475 s324 kn1) (oz476 c54 kn8) hm50)
                                by_cases w325 : l1_4.toInt = 6
                                ·
                                  refine ft_alx mi_k71 (pc := 114) (v := 6) (p := 80) (z := 87) (kj_eq w325 (by decide) : l1_4 = 6) (by decide +kernel) (by decide +kernel) ?_
                                  refine fo_goS mi_k71 fz71_115_1_116 [.int l3_50, .ref 87, .int ((a50 84).getD l1_4.toNatClampNeg 0), .int ((a50 84).getD l3_50.toNatClampNeg 0), .int l3_50, .ref 84] rfl ?_
                                  refine ko_iald3 mi_k71.1 (n := 8) (c := 8) (ax := (0, 0, 0, 0, 0)) (mi_k71.2 _ _ (by rfl)) (by rfl) (ksG87 _ _ _ _) (hL50.I.2.1 87) rfl (oz3 p50_2) (oz936 c54 kn8) ?_
                                  have b326 : ((-2147483648 : Int) ≤ ((a50 84).getD l1_4.toNatClampNeg 0).toInt) ∧ (((a50 84).getD l1_4.toNatClampNeg 0).toInt ≤ 2147483647) := kd_bd ((a50 84).getD l1_4.toNatClampNeg 0)
                                  have b327 : ((-2147483648 : Int) ≤ ((a50 87).getD l3_50.toNatClampNeg 0).toInt) ∧ (((a50 87).getD l3_50.toNatClampNeg 0).toInt ≤ 2147483647) := kd_bd ((a50 87).getD l3_50.toNatClampNeg 0)
                                  refine fo_goS mi_k71 fz71_117_1_118 [.int (((a50 84).getD l1_4.toNatClampNeg 0) + ((a50 87).getD l3_50.toNatClampNeg 0)), .int ((a50 84).getD l3_50.toNatClampNeg 0), .int l3_50, .ref 84] rfl ?_
                                  have m329 : (((bif decide ((((a50 84).getD l1_4.toNatClampNeg 0) + ((a50 87).getD l3_50.toNatClampNeg 0)) < ((a50 84).getD l3_50.toNatClampNeg 0)) then (((a50 84).getD l1_4.toNatClampNeg 0) + ((a50 87).getD l3_50.toNatClampNeg 0)) else ((a50 84).getD l3_50.toNatClampNeg 0)).toInt ≤ ((a50 84).getD l3_50.toNatClampNeg 0).toInt) ∧ ((bif decide ((((a50 84).getD l1_4.toNatClampNeg 0) + ((a50 87).getD l3_50.toNatClampNeg 0)) < ((a50 84).getD l3_50.toNatClampNeg 0)) then (((a50 84).getD l1_4.toNatClampNeg 0) + ((a50 87).getD l3_50.toNatClampNeg 0)) else ((a50 84).getD l3_50.toNatClampNeg 0)).toInt ≤ (((a50 84).getD l1_4.toNatClampNeg 0) + ((a50 87).getD l3_50.toNatClampNeg 0)).toInt)) ∧ ((bif decide ((((a50 84).getD l1_4.toNatClampNeg 0) + ((a50 87).getD l3_50.toNatClampNeg 0)) < ((a50 84).getD l3_50.toNatClampNeg 0)) then (((a50 84).getD l1_4.toNatClampNeg 0) + ((a50 87).getD l3_50.toNatClampNeg 0)) else ((a50 84).getD l3_50.toNatClampNeg 0)).toInt = ((a50 84).getD l3_50.toNatClampNeg 0).toInt ∨ (bif decide ((((a50 84).getD l1_4.toNatClampNeg 0) + ((a50 87).getD l3_50.toNatClampNeg 0)) < ((a50 84).getD l3_50.toNatClampNeg 0)) then (((a50 84).getD l1_4.toNatClampNeg 0) + ((a50 87).getD l3_50.toNatClampNeg 0)) else ((a50 84).getD l3_50.toNatClampNeg 0)).toInt = (((a50 84).getD l1_4.toNatClampNeg 0) + ((a50 87).getD l3_50.toNatClampNeg 0)).toInt) := kd_min
                                  first | refine ft_goS mi_k71 1 121 [.int (bif decide ((((a50 84).getD l1_4.toNatClampNeg 0) + ((a50 87).getD l3_50.toNatClampNeg 0)) < ((a50 84).getD l3_50.toNatClampNeg 0)) then (((a50 84).getD l1_4.toNatClampNeg 0) + ((a50 87).getD l3_50.toNatClampNeg 0)) else ((a50 84).getD l3_50.toNatClampNeg 0)), .int l3_50, .ref 84] (by rfl) ?_ | refine ft_go mi_k71 1 121 [(3, .int l3_50), (2, .int l2_45), (1, .int l1_4), (0, .ref 49)] [.int (bif decide ((((a50 84).getD l1_4.toNatClampNeg 0) + ((a50 87).getD l3_50.toNatClampNeg 0)) < ((a50 84).getD l3_50.toNatClampNeg 0)) then (((a50 84).getD l1_4.toNatClampNeg 0) + ((a50 87).getD l3_50.toNatClampNeg 0)) else ((a50 84).getD l3_50.toNatClampNeg 0)), .int l3_50, .ref 84] i50 a50 q50 r50 (by rfl) ?_ | refine ko_steps mi_in71 1 _ (121, [(3, .int l3_50), (2, .int l2_45), (1, .int l1_4), (0, .ref 49)], [.int (bif decide ((((a50 84).getD l1_4.toNatClampNeg 0) + ((a50 87).getD l3_50.toNatClampNeg 0)) < ((a50 84).getD l3_50.toNatClampNeg 0)) then (((a50 84).getD l1_4.toNatClampNeg 0) + ((a50 87).getD l3_50.toNatClampNeg 0)) else ((a50 84).getD l3_50.toNatClampNeg 0)), .int l3_50, .ref 84], (0, 0), ks i50 a50 q50 r50) (by rfl) ?_
                                  generalize (bif decide ((((a50 84).getD l1_4.toNatClampNeg 0) + ((a50 87).getD l3_50.toNatClampNeg 0)) < ((a50 84).getD l3_50.toNatClampNeg 0)) then (((a50 84).getD l1_4.toNatClampNeg 0) + ((a50 87).getD l3_50.toNatClampNeg 0)) else ((a50 84).getD l3_50.toNatClampNeg 0)) = m328 at m329 ⊢
                                  refine ko_iast3 mi_k71.1 (n := 8) (c := 8) (ax := (0, 0, 0, 0, 0)) (mi_k71.2 _ _ (by rfl)) (by rfl) (ksG84 _ _ _ _) (ksA84 _ _ _ _) (hL50.I.2.1 84) rfl (oz3 p50_2) (oz936 c54 kn8) ?_
                                  intro a330 ea330 fa330
                                  have hJ330 := kG_a3 hL50 84 rfl ea330 fa330 (kd_bd _)
                                  have s331 : (l3_50 + 1).toInt = l3_50.toInt + (1 : Int32).toInt := kd_add (oz12 p50_2 kn1) (oz474 c54 kn8 kn1)
                                  first | refine fo_goL mi_k71 fz71_78_2_80 [(3, .int (l3_50 + 1)), (2, .int l2_45), (1, .int l1_4), (0, .ref 49)] [] (by rfl) ?_ | refine fo_goL mi_k71 fz71_122_2_80 [(3, .int (l3_50 + 1)), (2, .int l2_45), (1, .int l1_4), (0, .ref 49)] [] (by rfl) ?_
                                  exact ih50 _ _ _ _ _ hJ330 (oz1026 c44 w325 kn8) (oz1023 c49 w274 kn8) (oz14 p50_2 s331 kn1) (kj_meas (oz475 s331 kn1) (oz476 c54 kn8) hm50)
                                by_cases w332 : l1_4.toInt = 7
                                ·
                                  refine ft_alx mi_k71 (pc := 114) (v := 7) (p := 80) (z := 88) (kj_eq w332 (by decide) : l1_4 = 7) (by decide +kernel) (by decide +kernel) ?_
                                  refine fo_goS mi_k71 fz71_115_1_116 [.int l3_50, .ref 88, .int ((a50 84).getD l1_4.toNatClampNeg 0), .int ((a50 84).getD l3_50.toNatClampNeg 0), .int l3_50, .ref 84] rfl ?_
                                  refine ko_iald3 mi_k71.1 (n := 8) (c := 8) (ax := (0, 0, 0, 0, 0)) (mi_k71.2 _ _ (by rfl)) (by rfl) (ksG88 _ _ _ _) (hL50.I.2.1 88) rfl (oz3 p50_2) (oz936 c54 kn8) ?_
                                  have b333 : ((-2147483648 : Int) ≤ ((a50 84).getD l1_4.toNatClampNeg 0).toInt) ∧ (((a50 84).getD l1_4.toNatClampNeg 0).toInt ≤ 2147483647) := kd_bd ((a50 84).getD l1_4.toNatClampNeg 0)
                                  have b334 : ((-2147483648 : Int) ≤ ((a50 88).getD l3_50.toNatClampNeg 0).toInt) ∧ (((a50 88).getD l3_50.toNatClampNeg 0).toInt ≤ 2147483647) := kd_bd ((a50 88).getD l3_50.toNatClampNeg 0)
                                  refine fo_goS mi_k71 fz71_117_1_118 [.int (((a50 84).getD l1_4.toNatClampNeg 0) + ((a50 88).getD l3_50.toNatClampNeg 0)), .int ((a50 84).getD l3_50.toNatClampNeg 0), .int l3_50, .ref 84] rfl ?_
                                  have m336 : (((bif decide ((((a50 84).getD l1_4.toNatClampNeg 0) + ((a50 88).getD l3_50.toNatClampNeg 0)) < ((a50 84).getD l3_50.toNatClampNeg 0)) then (((a50 84).getD l1_4.toNatClampNeg 0) + ((a50 88).getD l3_50.toNatClampNeg 0)) else ((a50 84).getD l3_50.toNatClampNeg 0)).toInt ≤ ((a50 84).getD l3_50.toNatClampNeg 0).toInt) ∧ ((bif decide ((((a50 84).getD l1_4.toNatClampNeg 0) + ((a50 88).getD l3_50.toNatClampNeg 0)) < ((a50 84).getD l3_50.toNatClampNeg 0)) then (((a50 84).getD l1_4.toNatClampNeg 0) + ((a50 88).getD l3_50.toNatClampNeg 0)) else ((a50 84).getD l3_50.toNatClampNeg 0)).toInt ≤ (((a50 84).getD l1_4.toNatClampNeg 0) + ((a50 88).getD l3_50.toNatClampNeg 0)).toInt)) ∧ ((bif decide ((((a50 84).getD l1_4.toNatClampNeg 0) + ((a50 88).getD l3_50.toNatClampNeg 0)) < ((a50 84).getD l3_50.toNatClampNeg 0)) then (((a50 84).getD l1_4.toNatClampNeg 0) + ((a50 88).getD l3_50.toNatClampNeg 0)) else ((a50 84).getD l3_50.toNatClampNeg 0)).toInt = ((a50 84).getD l3_50.toNatClampNeg 0).toInt ∨ (bif decide ((((a50 84).getD l1_4.toNatClampNeg 0) + ((a50 88).getD l3_50.toNatClampNeg 0)) < ((a50 84).getD l3_50.toNatClampNeg 0)) then (((a50 84).getD l1_4.toNatClampNeg 0) + ((a50 88).getD l3_50.toNatClampNeg 0)) else ((a50 84).getD l3_50.toNatClampNeg 0)).toInt = (((a50 84).getD l1_4.toNatClampNeg 0) + ((a50 88).getD l3_50.toNatClampNeg 0)).toInt) := kd_min
                                  first | refine ft_goS mi_k71 1 121 [.int (bif decide ((((a50 84).getD l1_4.toNatClampNeg 0) + ((a50 88).getD l3_50.toNatClampNeg 0)) < ((a50 84).getD l3_50.toNatClampNeg 0)) then (((a50 84).getD l1_4.toNatClampNeg 0) + ((a50 88).getD l3_50.toNatClampNeg 0)) else ((a50 84).getD l3_50.toNatClampNeg 0)), .int l3_50, .ref 84] (by rfl) ?_ | refine ft_go mi_k71 1 121 [(3, .int l3_50), (2, .int l2_45), (1, .int l1_4), (0, .ref 49)] [.int (bif decide ((((a50 84).getD l1_4.toNatClampNeg 0) + ((a50 88).getD l3_50.toNatClampNeg 0)) < ((a50 84).getD l3_50.toNatClampNeg 0)) then (((a50 84).getD l1_4.toNatClampNeg 0) + ((a50 88).getD l3_50.toNatClampNeg 0)) else ((a50 84).getD l3_50.toNatClampNeg 0)), .int l3_50, .ref 84] i50 a50 q50 r50 (by rfl) ?_ | refine ko_steps mi_in71 1 _ (121, [(3, .int l3_50), (2, .int l2_45), (1, .int l1_4), (0, .ref 49)], [.int (bif decide ((((a50 84).getD l1_4.toNatClampNeg 0) + ((a50 88).getD l3_50.toNatClampNeg 0)) < ((a50 84).getD l3_50.toNatClampNeg 0)) then (((a50 84).getD l1_4.toNatClampNeg 0) + ((a50 88).getD l3_50.toNatClampNeg 0)) else ((a50 84).getD l3_50.toNatClampNeg 0)), .int l3_50, .ref 84], (0, 0), ks i50 a50 q50 r50) (by rfl) ?_
                                  generalize (bif decide ((((a50 84).getD l1_4.toNatClampNeg 0) + ((a50 88).getD l3_50.toNatClampNeg 0)) < ((a50 84).getD l3_50.toNatClampNeg 0)) then (((a50 84).getD l1_4.toNatClampNeg 0) + ((a50 88).getD l3_50.toNatClampNeg 0)) else ((a50 84).getD l3_50.toNatClampNeg 0)) = m335 at m336 ⊢
                                  refine ko_iast3 mi_k71.1 (n := 8) (c := 8) (ax := (0, 0, 0, 0, 0)) (mi_k71.2 _ _ (by rfl)) (by rfl) (ksG84 _ _ _ _) (ksA84 _ _ _ _) (hL50.I.2.1 84) rfl (oz3 p50_2) (oz936 c54 kn8) ?_
                                  intro a337 ea337 fa337
                                  have hJ337 := kG_a3 hL50 84 rfl ea337 fa337 (kd_bd _)
                                  have s338 : (l3_50 + 1).toInt = l3_50.toInt + (1 : Int32).toInt := kd_add (oz12 p50_2 kn1) (oz474 c54 kn8 kn1)
                                  first | refine fo_goL mi_k71 fz71_78_2_80 [(3, .int (l3_50 + 1)), (2, .int l2_45), (1, .int l1_4), (0, .ref 49)] [] (by rfl) ?_ | refine fo_goL mi_k71 fz71_122_2_80 [(3, .int (l3_50 + 1)), (2, .int l2_45), (1, .int l1_4), (0, .ref 49)] [] (by rfl) ?_
                                  exact ih50 _ _ _ _ _ hJ337 (oz1027 c44 w332 kn8) (oz1023 c49 w274 kn8) (oz14 p50_2 s338 kn1) (kj_meas (oz475 s338 kn1) (oz476 c54 kn8) hm50)
                                exact (oz1028 c44 p4_0 w283 w290 w297 w304 w311 w318 w325 w332 kn8).elim
                              exact (oz1001 w274 w282).elim
                            exact (oz1001 w274 w278).elim
                          by_cases w347 : l2_45.toInt = 4
                          ·
                            refine ft_alx mi_k71 (pc := 91) (v := 4) (p := 80) (z := 85) (kj_eq w347 (by decide) : l2_45 = 4) (by decide +kernel) (by decide +kernel) ?_
                            refine fo_goS mi_k71 fz71_92_4_98 [.int l2_45, .ref 80, .int l3_50, .ref 85] rfl ?_
                            by_cases w352 : l2_45.toInt = 4
                            ·
                              refine ft_alx mi_k71 (pc := 98) (v := 4) (p := 80) (z := 85) (kj_eq w352 (by decide) : l2_45 = 4) (by decide +kernel) (by decide +kernel) ?_
                              refine fo_goS mi_k71 fz71_99_1_100 [.int l3_50, .ref 85, .int l3_50, .ref 85] rfl ?_
                              refine ko_iald3 mi_k71.1 (n := 8) (c := 8) (ax := (0, 0, 0, 0, 0)) (mi_k71.2 _ _ (by rfl)) (by rfl) (ksG85 _ _ _ _) (hL50.I.2.1 85) rfl (oz3 p50_2) (oz936 c54 kn8) ?_
                              refine fo_goS mi_k71 fz71_101_3_106 [.int l2_45, .ref 80, .int ((a50 85).getD l3_50.toNatClampNeg 0), .int l3_50, .ref 85] rfl ?_
                              by_cases w357 : l2_45.toInt = 4
                              ·
                                refine ft_alx mi_k71 (pc := 106) (v := 4) (p := 80) (z := 85) (kj_eq w357 (by decide) : l2_45 = 4) (by decide +kernel) (by decide +kernel) ?_
                                refine fo_goS mi_k71 fz71_107_1_108 [.int l1_4, .ref 85, .int ((a50 85).getD l3_50.toNatClampNeg 0), .int l3_50, .ref 85] rfl ?_
                                refine ko_iald3 mi_k71.1 (n := 8) (c := 8) (ax := (0, 0, 0, 0, 0)) (mi_k71.2 _ _ (by rfl)) (by rfl) (ksG85 _ _ _ _) (hL50.I.2.1 85) rfl (oz3 p4_0) (oz936 c44 kn8) ?_
                                refine fo_goS mi_k71 fz71_109_3_114 [.int l1_4, .ref 80, .int ((a50 85).getD l1_4.toNatClampNeg 0), .int ((a50 85).getD l3_50.toNatClampNeg 0), .int l3_50, .ref 85] rfl ?_
                                by_cases w358 : l1_4.toInt = 0
                                ·
                                  refine ft_alx mi_k71 (pc := 114) (v := 0) (p := 80) (z := 81) (kj_eq w358 (by decide) : l1_4 = 0) (by decide +kernel) (by decide +kernel) ?_
                                  refine fo_goS mi_k71 fz71_115_1_116 [.int l3_50, .ref 81, .int ((a50 85).getD l1_4.toNatClampNeg 0), .int ((a50 85).getD l3_50.toNatClampNeg 0), .int l3_50, .ref 85] rfl ?_
                                  refine ko_iald3 mi_k71.1 (n := 8) (c := 8) (ax := (0, 0, 0, 0, 0)) (mi_k71.2 _ _ (by rfl)) (by rfl) (ksG81 _ _ _ _) (hL50.I.2.1 81) rfl (oz3 p50_2) (oz936 c54 kn8) ?_
                                  have b359 : ((-2147483648 : Int) ≤ ((a50 85).getD l1_4.toNatClampNeg 0).toInt) ∧ (((a50 85).getD l1_4.toNatClampNeg 0).toInt ≤ 2147483647) := kd_bd ((a50 85).getD l1_4.toNatClampNeg 0)
                                  have b360 : ((-2147483648 : Int) ≤ ((a50 81).getD l3_50.toNatClampNeg 0).toInt) ∧ (((a50 81).getD l3_50.toNatClampNeg 0).toInt ≤ 2147483647) := kd_bd ((a50 81).getD l3_50.toNatClampNeg 0)
                                  refine fo_goS mi_k71 fz71_117_1_118 [.int (((a50 85).getD l1_4.toNatClampNeg 0) + ((a50 81).getD l3_50.toNatClampNeg 0)), .int ((a50 85).getD l3_50.toNatClampNeg 0), .int l3_50, .ref 85] rfl ?_
                                  have m362 : (((bif decide ((((a50 85).getD l1_4.toNatClampNeg 0) + ((a50 81).getD l3_50.toNatClampNeg 0)) < ((a50 85).getD l3_50.toNatClampNeg 0)) then (((a50 85).getD l1_4.toNatClampNeg 0) + ((a50 81).getD l3_50.toNatClampNeg 0)) else ((a50 85).getD l3_50.toNatClampNeg 0)).toInt ≤ ((a50 85).getD l3_50.toNatClampNeg 0).toInt) ∧ ((bif decide ((((a50 85).getD l1_4.toNatClampNeg 0) + ((a50 81).getD l3_50.toNatClampNeg 0)) < ((a50 85).getD l3_50.toNatClampNeg 0)) then (((a50 85).getD l1_4.toNatClampNeg 0) + ((a50 81).getD l3_50.toNatClampNeg 0)) else ((a50 85).getD l3_50.toNatClampNeg 0)).toInt ≤ (((a50 85).getD l1_4.toNatClampNeg 0) + ((a50 81).getD l3_50.toNatClampNeg 0)).toInt)) ∧ ((bif decide ((((a50 85).getD l1_4.toNatClampNeg 0) + ((a50 81).getD l3_50.toNatClampNeg 0)) < ((a50 85).getD l3_50.toNatClampNeg 0)) then (((a50 85).getD l1_4.toNatClampNeg 0) + ((a50 81).getD l3_50.toNatClampNeg 0)) else ((a50 85).getD l3_50.toNatClampNeg 0)).toInt = ((a50 85).getD l3_50.toNatClampNeg 0).toInt ∨ (bif decide ((((a50 85).getD l1_4.toNatClampNeg 0) + ((a50 81).getD l3_50.toNatClampNeg 0)) < ((a50 85).getD l3_50.toNatClampNeg 0)) then (((a50 85).getD l1_4.toNatClampNeg 0) + ((a50 81).getD l3_50.toNatClampNeg 0)) else ((a50 85).getD l3_50.toNatClampNeg 0)).toInt = (((a50 85).getD l1_4.toNatClampNeg 0) + ((a50 81).getD l3_50.toNatClampNeg 0)).toInt) := kd_min
                                  first | refine ft_goS mi_k71 1 121 [.int (bif decide ((((a50 85).getD l1_4.toNatClampNeg 0) + ((a50 81).getD l3_50.toNatClampNeg 0)) < ((a50 85).getD l3_50.toNatClampNeg 0)) then (((a50 85).getD l1_4.toNatClampNeg 0) + ((a50 81).getD l3_50.toNatClampNeg 0)) else ((a50 85).getD l3_50.toNatClampNeg 0)), .int l3_50, .ref 85] (by rfl) ?_ | refine ft_go mi_k71 1 121 [(3, .int l3_50), (2, .int l2_45), (1, .int l1_4), (0, .ref 49)] [.int (bif decide ((((a50 85).getD l1_4.toNatClampNeg 0) + ((a50 81).getD l3_50.toNatClampNeg 0)) < ((a50 85).getD l3_50.toNatClampNeg 0)) then (((a50 85).getD l1_4.toNatClampNeg 0) + ((a50 81).getD l3_50.toNatClampNeg 0)) else ((a50 85).getD l3_50.toNatClampNeg 0)), .int l3_50, .ref 85] i50 a50 q50 r50 (by rfl) ?_ | refine ko_steps mi_in71 1 _ (121, [(3, .int l3_50), (2, .int l2_45), (1, .int l1_4), (0, .ref 49)], [.int (bif decide ((((a50 85).getD l1_4.toNatClampNeg 0) + ((a50 81).getD l3_50.toNatClampNeg 0)) < ((a50 85).getD l3_50.toNatClampNeg 0)) then (((a50 85).getD l1_4.toNatClampNeg 0) + ((a50 81).getD l3_50.toNatClampNeg 0)) else ((a50 85).getD l3_50.toNatClampNeg 0)), .int l3_50, .ref 85], (0, 0), ks i50 a50 q50 r50) (by rfl) ?_
                                  generalize (bif decide ((((a50 85).getD l1_4.toNatClampNeg 0) + ((a50 81).getD l3_50.toNatClampNeg 0)) < ((a50 85).getD l3_50.toNatClampNeg 0)) then (((a50 85).getD l1_4.toNatClampNeg 0) + ((a50 81).getD l3_50.toNatClampNeg 0)) else ((a50 85).getD l3_50.toNatClampNeg 0)) = m361 at m362 ⊢
                                  refine ko_iast3 mi_k71.1 (n := 8) (c := 8) (ax := (0, 0, 0, 0, 0)) (mi_k71.2 _ _ (by rfl)) (by rfl) (ksG85 _ _ _ _) (ksA85 _ _ _ _) (hL50.I.2.1 85) rfl (oz3 p50_2) (oz936 c54 kn8) ?_
                                  intro a363 ea363 fa363
                                  have hJ363 := kG_a3 hL50 85 rfl ea363 fa363 (kd_bd _)
                                  have s364 : (l3_50 + 1).toInt = l3_50.toInt + (1 : Int32).toInt := kd_add (oz12 p50_2 kn1) (oz474 c54 kn8 kn1)
                                  first | refine fo_goL mi_k71 fz71_78_2_80 [(3, .int (l3_50 + 1)), (2, .int l2_45), (1, .int l1_4), (0, .ref 49)] [] (by rfl) ?_ | refine fo_goL mi_k71 fz71_122_2_80 [(3, .int (l3_50 + 1)), (2, .int l2_45), (1, .int l1_4), (0, .ref 49)] [] (by rfl) ?_
                                  exact ih50 _ _ _ _ _ hJ363 (oz488 c44 p4_0 kn8) (oz1024 c49 w347 kn8) (oz14 p50_2 s364 kn1) (kj_meas (oz475 s364 kn1) (oz476 c54 kn8) hm50)
                                by_cases w365 : l1_4.toInt = 1
                                ·
                                  refine ft_alx mi_k71 (pc := 114) (v := 1) (p := 80) (z := 82) (kj_eq w365 (by decide) : l1_4 = 1) (by decide +kernel) (by decide +kernel) ?_
                                  refine fo_goS mi_k71 fz71_115_1_116 [.int l3_50, .ref 82, .int ((a50 85).getD l1_4.toNatClampNeg 0), .int ((a50 85).getD l3_50.toNatClampNeg 0), .int l3_50, .ref 85] rfl ?_
                                  refine ko_iald3 mi_k71.1 (n := 8) (c := 8) (ax := (0, 0, 0, 0, 0)) (mi_k71.2 _ _ (by rfl)) (by rfl) (ksG82 _ _ _ _) (hL50.I.2.1 82) rfl (oz3 p50_2) (oz936 c54 kn8) ?_
                                  have b366 : ((-2147483648 : Int) ≤ ((a50 85).getD l1_4.toNatClampNeg 0).toInt) ∧ (((a50 85).getD l1_4.toNatClampNeg 0).toInt ≤ 2147483647) := kd_bd ((a50 85).getD l1_4.toNatClampNeg 0)
                                  have b367 : ((-2147483648 : Int) ≤ ((a50 82).getD l3_50.toNatClampNeg 0).toInt) ∧ (((a50 82).getD l3_50.toNatClampNeg 0).toInt ≤ 2147483647) := kd_bd ((a50 82).getD l3_50.toNatClampNeg 0)
                                  refine fo_goS mi_k71 fz71_117_1_118 [.int (((a50 85).getD l1_4.toNatClampNeg 0) + ((a50 82).getD l3_50.toNatClampNeg 0)), .int ((a50 85).getD l3_50.toNatClampNeg 0), .int l3_50, .ref 85] rfl ?_
                                  have m369 : (((bif decide ((((a50 85).getD l1_4.toNatClampNeg 0) + ((a50 82).getD l3_50.toNatClampNeg 0)) < ((a50 85).getD l3_50.toNatClampNeg 0)) then (((a50 85).getD l1_4.toNatClampNeg 0) + ((a50 82).getD l3_50.toNatClampNeg 0)) else ((a50 85).getD l3_50.toNatClampNeg 0)).toInt ≤ ((a50 85).getD l3_50.toNatClampNeg 0).toInt) ∧ ((bif decide ((((a50 85).getD l1_4.toNatClampNeg 0) + ((a50 82).getD l3_50.toNatClampNeg 0)) < ((a50 85).getD l3_50.toNatClampNeg 0)) then (((a50 85).getD l1_4.toNatClampNeg 0) + ((a50 82).getD l3_50.toNatClampNeg 0)) else ((a50 85).getD l3_50.toNatClampNeg 0)).toInt ≤ (((a50 85).getD l1_4.toNatClampNeg 0) + ((a50 82).getD l3_50.toNatClampNeg 0)).toInt)) ∧ ((bif decide ((((a50 85).getD l1_4.toNatClampNeg 0) + ((a50 82).getD l3_50.toNatClampNeg 0)) < ((a50 85).getD l3_50.toNatClampNeg 0)) then (((a50 85).getD l1_4.toNatClampNeg 0) + ((a50 82).getD l3_50.toNatClampNeg 0)) else ((a50 85).getD l3_50.toNatClampNeg 0)).toInt = ((a50 85).getD l3_50.toNatClampNeg 0).toInt ∨ (bif decide ((((a50 85).getD l1_4.toNatClampNeg 0) + ((a50 82).getD l3_50.toNatClampNeg 0)) < ((a50 85).getD l3_50.toNatClampNeg 0)) then (((a50 85).getD l1_4.toNatClampNeg 0) + ((a50 82).getD l3_50.toNatClampNeg 0)) else ((a50 85).getD l3_50.toNatClampNeg 0)).toInt = (((a50 85).getD l1_4.toNatClampNeg 0) + ((a50 82).getD l3_50.toNatClampNeg 0)).toInt) := kd_min
                                  first | refine ft_goS mi_k71 1 121 [.int (bif decide ((((a50 85).getD l1_4.toNatClampNeg 0) + ((a50 82).getD l3_50.toNatClampNeg 0)) < ((a50 85).getD l3_50.toNatClampNeg 0)) then (((a50 85).getD l1_4.toNatClampNeg 0) + ((a50 82).getD l3_50.toNatClampNeg 0)) else ((a50 85).getD l3_50.toNatClampNeg 0)), .int l3_50, .ref 85] (by rfl) ?_ | refine ft_go mi_k71 1 121 [(3, .int l3_50), (2, .int l2_45), (1, .int l1_4), (0, .ref 49)] [.int (bif decide ((((a50 85).getD l1_4.toNatClampNeg 0) + ((a50 82).getD l3_50.toNatClampNeg 0)) < ((a50 85).getD l3_50.toNatClampNeg 0)) then (((a50 85).getD l1_4.toNatClampNeg 0) + ((a50 82).getD l3_50.toNatClampNeg 0)) else ((a50 85).getD l3_50.toNatClampNeg 0)), .int l3_50, .ref 85] i50 a50 q50 r50 (by rfl) ?_ | refine ko_steps mi_in71 1 _ (121, [(3, .int l3_50), (2, .int l2_45), (1, .int l1_4), (0, .ref 49)], [.int (bif decide ((((a50 85).getD l1_4.toNatClampNeg 0) + ((a50 82).getD l3_50.toNatClampNeg 0)) < ((a50 85).getD l3_50.toNatClampNeg 0)) then (((a50 85).getD l1_4.toNatClampNeg 0) + ((a50 82).getD l3_50.toNatClampNeg 0)) else ((a50 85).getD l3_50.toNatClampNeg 0)), .int l3_50, .ref 85], (0, 0), ks i50 a50 q50 r50) (by rfl) ?_
                                  generalize (bif decide ((((a50 85).getD l1_4.toNatClampNeg 0) + ((a50 82).getD l3_50.toNatClampNeg 0)) < ((a50 85).getD l3_50.toNatClampNeg 0)) then (((a50 85).getD l1_4.toNatClampNeg 0) + ((a50 82).getD l3_50.toNatClampNeg 0)) else ((a50 85).getD l3_50.toNatClampNeg 0)) = m368 at m369 ⊢
                                  refine ko_iast3 mi_k71.1 (n := 8) (c := 8) (ax := (0, 0, 0, 0, 0)) (mi_k71.2 _ _ (by rfl)) (by rfl) (ksG85 _ _ _ _) (ksA85 _ _ _ _) (hL50.I.2.1 85) rfl (oz3 p50_2) (oz936 c54 kn8) ?_
                                  intro a370 ea370 fa370
                                  have hJ370 := kG_a3 hL50 85 rfl ea370 fa370 (kd_bd _)
                                  have s371 : (l3_50 + 1).toInt = l3_50.toInt + (1 : Int32).toInt := kd_add (oz12 p50_2 kn1) (oz474 c54 kn8 kn1)
                                  first | refine fo_goL mi_k71 fz71_78_2_80 [(3, .int (l3_50 + 1)), (2, .int l2_45), (1, .int l1_4), (0, .ref 49)] [] (by rfl) ?_ | refine fo_goL mi_k71 fz71_122_2_80 [(3, .int (l3_50 + 1)), (2, .int l2_45), (1, .int l1_4), (0, .ref 49)] [] (by rfl) ?_
                                  exact ih50 _ _ _ _ _ hJ370 (oz1021 c44 w365 kn8) (oz1024 c49 w347 kn8) (oz14 p50_2 s371 kn1) (kj_meas (oz475 s371 kn1) (oz476 c54 kn8) hm50)
                                by_cases w372 : l1_4.toInt = 2
                                ·
                                  refine ft_alx mi_k71 (pc := 114) (v := 2) (p := 80) (z := 83) (kj_eq w372 (by decide) : l1_4 = 2) (by decide +kernel) (by decide +kernel) ?_
                                  refine fo_goS mi_k71 fz71_115_1_116 [.int l3_50, .ref 83, .int ((a50 85).getD l1_4.toNatClampNeg 0), .int ((a50 85).getD l3_50.toNatClampNeg 0), .int l3_50, .ref 85] rfl ?_
                                  refine ko_iald3 mi_k71.1 (n := 8) (c := 8) (ax := (0, 0, 0, 0, 0)) (mi_k71.2 _ _ (by rfl)) (by rfl) (ksG83 _ _ _ _) (hL50.I.2.1 83) rfl (oz3 p50_2) (oz936 c54 kn8) ?_
                                  have b373 : ((-2147483648 : Int) ≤ ((a50 85).getD l1_4.toNatClampNeg 0).toInt) ∧ (((a50 85).getD l1_4.toNatClampNeg 0).toInt ≤ 2147483647) := kd_bd ((a50 85).getD l1_4.toNatClampNeg 0)
                                  have b374 : ((-2147483648 : Int) ≤ ((a50 83).getD l3_50.toNatClampNeg 0).toInt) ∧ (((a50 83).getD l3_50.toNatClampNeg 0).toInt ≤ 2147483647) := kd_bd ((a50 83).getD l3_50.toNatClampNeg 0)
                                  refine fo_goS mi_k71 fz71_117_1_118 [.int (((a50 85).getD l1_4.toNatClampNeg 0) + ((a50 83).getD l3_50.toNatClampNeg 0)), .int ((a50 85).getD l3_50.toNatClampNeg 0), .int l3_50, .ref 85] rfl ?_
                                  have m376 : (((bif decide ((((a50 85).getD l1_4.toNatClampNeg 0) + ((a50 83).getD l3_50.toNatClampNeg 0)) < ((a50 85).getD l3_50.toNatClampNeg 0)) then (((a50 85).getD l1_4.toNatClampNeg 0) + ((a50 83).getD l3_50.toNatClampNeg 0)) else ((a50 85).getD l3_50.toNatClampNeg 0)).toInt ≤ ((a50 85).getD l3_50.toNatClampNeg 0).toInt) ∧ ((bif decide ((((a50 85).getD l1_4.toNatClampNeg 0) + ((a50 83).getD l3_50.toNatClampNeg 0)) < ((a50 85).getD l3_50.toNatClampNeg 0)) then (((a50 85).getD l1_4.toNatClampNeg 0) + ((a50 83).getD l3_50.toNatClampNeg 0)) else ((a50 85).getD l3_50.toNatClampNeg 0)).toInt ≤ (((a50 85).getD l1_4.toNatClampNeg 0) + ((a50 83).getD l3_50.toNatClampNeg 0)).toInt)) ∧ ((bif decide ((((a50 85).getD l1_4.toNatClampNeg 0) + ((a50 83).getD l3_50.toNatClampNeg 0)) < ((a50 85).getD l3_50.toNatClampNeg 0)) then (((a50 85).getD l1_4.toNatClampNeg 0) + ((a50 83).getD l3_50.toNatClampNeg 0)) else ((a50 85).getD l3_50.toNatClampNeg 0)).toInt = ((a50 85).getD l3_50.toNatClampNeg 0).toInt ∨ (bif decide ((((a50 85).getD l1_4.toNatClampNeg 0) + ((a50 83).getD l3_50.toNatClampNeg 0)) < ((a50 85).getD l3_50.toNatClampNeg 0)) then (((a50 85).getD l1_4.toNatClampNeg 0) + ((a50 83).getD l3_50.toNatClampNeg 0)) else ((a50 85).getD l3_50.toNatClampNeg 0)).toInt = (((a50 85).getD l1_4.toNatClampNeg 0) + ((a50 83).getD l3_50.toNatClampNeg 0)).toInt) := kd_min
                                  first | refine ft_goS mi_k71 1 121 [.int (bif decide ((((a50 85).getD l1_4.toNatClampNeg 0) + ((a50 83).getD l3_50.toNatClampNeg 0)) < ((a50 85).getD l3_50.toNatClampNeg 0)) then (((a50 85).getD l1_4.toNatClampNeg 0) + ((a50 83).getD l3_50.toNatClampNeg 0)) else ((a50 85).getD l3_50.toNatClampNeg 0)), .int l3_50, .ref 85] (by rfl) ?_ | refine ft_go mi_k71 1 121 [(3, .int l3_50), (2, .int l2_45), (1, .int l1_4), (0, .ref 49)] [.int (bif decide ((((a50 85).getD l1_4.toNatClampNeg 0) + ((a50 83).getD l3_50.toNatClampNeg 0)) < ((a50 85).getD l3_50.toNatClampNeg 0)) then (((a50 85).getD l1_4.toNatClampNeg 0) + ((a50 83).getD l3_50.toNatClampNeg 0)) else ((a50 85).getD l3_50.toNatClampNeg 0)), .int l3_50, .ref 85] i50 a50 q50 r50 (by rfl) ?_ | refine ko_steps mi_in71 1 _ (121, [(3, .int l3_50), (2, .int l2_45), (1, .int l1_4), (0, .ref 49)], [.int (bif decide ((((a50 85).getD l1_4.toNatClampNeg 0) + ((a50 83).getD l3_50.toNatClampNeg 0)) < ((a50 85).getD l3_50.toNatClampNeg 0)) then (((a50 85).getD l1_4.toNatClampNeg 0) + ((a50 83).getD l3_50.toNatClampNeg 0)) else ((a50 85).getD l3_50.toNatClampNeg 0)), .int l3_50, .ref 85], (0, 0), ks i50 a50 q50 r50) (by rfl) ?_
                                  generalize (bif decide ((((a50 85).getD l1_4.toNatClampNeg 0) + ((a50 83).getD l3_50.toNatClampNeg 0)) < ((a50 85).getD l3_50.toNatClampNeg 0)) then (((a50 85).getD l1_4.toNatClampNeg 0) + ((a50 83).getD l3_50.toNatClampNeg 0)) else ((a50 85).getD l3_50.toNatClampNeg 0)) = m375 at m376 ⊢
                                  refine ko_iast3 mi_k71.1 (n := 8) (c := 8) (ax := (0, 0, 0, 0, 0)) (mi_k71.2 _ _ (by rfl)) (by rfl) (ksG85 _ _ _ _) (ksA85 _ _ _ _) (hL50.I.2.1 85) rfl (oz3 p50_2) (oz936 c54 kn8) ?_
                                  intro a377 ea377 fa377
                                  have hJ377 := kG_a3 hL50 85 rfl ea377 fa377 (kd_bd _)
                                  have s378 : (l3_50 + 1).toInt = l3_50.toInt + (1 : Int32).toInt := kd_add (oz12 p50_2 kn1) (oz474 c54 kn8 kn1)
                                  first | refine fo_goL mi_k71 fz71_78_2_80 [(3, .int (l3_50 + 1)), (2, .int l2_45), (1, .int l1_4), (0, .ref 49)] [] (by rfl) ?_ | refine fo_goL mi_k71 fz71_122_2_80 [(3, .int (l3_50 + 1)), (2, .int l2_45), (1, .int l1_4), (0, .ref 49)] [] (by rfl) ?_
                                  exact ih50 _ _ _ _ _ hJ377 (oz1022 c44 w372 kn8) (oz1024 c49 w347 kn8) (oz14 p50_2 s378 kn1) (kj_meas (oz475 s378 kn1) (oz476 c54 kn8) hm50)
                                by_cases w379 : l1_4.toInt = 3
                                ·
                                  refine ft_alx mi_k71 (pc := 114) (v := 3) (p := 80) (z := 84) (kj_eq w379 (by decide) : l1_4 = 3) (by decide +kernel) (by decide +kernel) ?_
                                  refine fo_goS mi_k71 fz71_115_1_116 [.int l3_50, .ref 84, .int ((a50 85).getD l1_4.toNatClampNeg 0), .int ((a50 85).getD l3_50.toNatClampNeg 0), .int l3_50, .ref 85] rfl ?_
                                  refine ko_iald3 mi_k71.1 (n := 8) (c := 8) (ax := (0, 0, 0, 0, 0)) (mi_k71.2 _ _ (by rfl)) (by rfl) (ksG84 _ _ _ _) (hL50.I.2.1 84) rfl (oz3 p50_2) (oz936 c54 kn8) ?_
                                  have b380 : ((-2147483648 : Int) ≤ ((a50 85).getD l1_4.toNatClampNeg 0).toInt) ∧ (((a50 85).getD l1_4.toNatClampNeg 0).toInt ≤ 2147483647) := kd_bd ((a50 85).getD l1_4.toNatClampNeg 0)
                                  have b381 : ((-2147483648 : Int) ≤ ((a50 84).getD l3_50.toNatClampNeg 0).toInt) ∧ (((a50 84).getD l3_50.toNatClampNeg 0).toInt ≤ 2147483647) := kd_bd ((a50 84).getD l3_50.toNatClampNeg 0)
                                  refine fo_goS mi_k71 fz71_117_1_118 [.int (((a50 85).getD l1_4.toNatClampNeg 0) + ((a50 84).getD l3_50.toNatClampNeg 0)), .int ((a50 85).getD l3_50.toNatClampNeg 0), .int l3_50, .ref 85] rfl ?_
                                  have m383 : (((bif decide ((((a50 85).getD l1_4.toNatClampNeg 0) + ((a50 84).getD l3_50.toNatClampNeg 0)) < ((a50 85).getD l3_50.toNatClampNeg 0)) then (((a50 85).getD l1_4.toNatClampNeg 0) + ((a50 84).getD l3_50.toNatClampNeg 0)) else ((a50 85).getD l3_50.toNatClampNeg 0)).toInt ≤ ((a50 85).getD l3_50.toNatClampNeg 0).toInt) ∧ ((bif decide ((((a50 85).getD l1_4.toNatClampNeg 0) + ((a50 84).getD l3_50.toNatClampNeg 0)) < ((a50 85).getD l3_50.toNatClampNeg 0)) then (((a50 85).getD l1_4.toNatClampNeg 0) + ((a50 84).getD l3_50.toNatClampNeg 0)) else ((a50 85).getD l3_50.toNatClampNeg 0)).toInt ≤ (((a50 85).getD l1_4.toNatClampNeg 0) + ((a50 84).getD l3_50.toNatClampNeg 0)).toInt)) ∧ ((bif decide ((((a50 85).getD l1_4.toNatClampNeg 0) + ((a50 84).getD l3_50.toNatClampNeg 0)) < ((a50 85).getD l3_50.toNatClampNeg 0)) then (((a50 85).getD l1_4.toNatClampNeg 0) + ((a50 84).getD l3_50.toNatClampNeg 0)) else ((a50 85).getD l3_50.toNatClampNeg 0)).toInt = ((a50 85).getD l3_50.toNatClampNeg 0).toInt ∨ (bif decide ((((a50 85).getD l1_4.toNatClampNeg 0) + ((a50 84).getD l3_50.toNatClampNeg 0)) < ((a50 85).getD l3_50.toNatClampNeg 0)) then (((a50 85).getD l1_4.toNatClampNeg 0) + ((a50 84).getD l3_50.toNatClampNeg 0)) else ((a50 85).getD l3_50.toNatClampNeg 0)).toInt = (((a50 85).getD l1_4.toNatClampNeg 0) + ((a50 84).getD l3_50.toNatClampNeg 0)).toInt) := kd_min
                                  first | refine ft_goS mi_k71 1 121 [.int (bif decide ((((a50 85).getD l1_4.toNatClampNeg 0) + ((a50 84).getD l3_50.toNatClampNeg 0)) < ((a50 85).getD l3_50.toNatClampNeg 0)) then (((a50 85).getD l1_4.toNatClampNeg 0) + ((a50 84).getD l3_50.toNatClampNeg 0)) else ((a50 85).getD l3_50.toNatClampNeg 0)), .int l3_50, .ref 85] (by rfl) ?_ | refine ft_go mi_k71 1 121 [(3, .int l3_50), (2, .int l2_45), (1, .int l1_4), (0, .ref 49)] [.int (bif decide ((((a50 85).getD l1_4.toNatClampNeg 0) + ((a50 84).getD l3_50.toNatClampNeg 0)) < ((a50 85).getD l3_50.toNatClampNeg 0)) then (((a50 85).getD l1_4.toNatClampNeg 0) + ((a50 84).getD l3_50.toNatClampNeg 0)) else ((a50 85).getD l3_50.toNatClampNeg 0)), .int l3_50, .ref 85] i50 a50 q50 r50 (by rfl) ?_ | refine ko_steps mi_in71 1 _ (121, [(3, .int l3_50), (2, .int l2_45), (1, .int l1_4), (0, .ref 49)], [.int (bif decide ((((a50 85).getD l1_4.toNatClampNeg 0) + ((a50 84).getD l3_50.toNatClampNeg 0)) < ((a50 85).getD l3_50.toNatClampNeg 0)) then (((a50 85).getD l1_4.toNatClampNeg 0) + ((a50 84).getD l3_50.toNatClampNeg 0)) else ((a50 85).getD l3_50.toNatClampNeg 0)), .int l3_50, .ref 85], (0, 0), ks i50 a50 q50 r50) (by rfl) ?_
                                  generalize (bif decide ((((a50 85).getD l1_4.toNatClampNeg 0) + ((a50 84).getD l3_50.toNatClampNeg 0)) < ((a50 85).getD l3_50.toNatClampNeg 0)) then (((a50 85).getD l1_4.toNatClampNeg 0) + ((a50 84).getD l3_50.toNatClampNeg 0)) else ((a50 85).getD l3_50.toNatClampNeg 0)) = m382 at m383 ⊢
                                  refine ko_iast3 mi_k71.1 (n := 8) (c := 8) (ax := (0, 0, 0, 0, 0)) (mi_k71.2 _ _ (by rfl)) (by rfl) (ksG85 _ _ _ _) (ksA85 _ _ _ _) (hL50.I.2.1 85) rfl (oz3 p50_2) (oz936 c54 kn8) ?_
                                  intro a384 ea384 fa384
                                  have hJ384 := kG_a3 hL50 85 rfl ea384 fa384 (kd_bd _)
                                  have s385 : (l3_50 + 1).toInt = l3_50.toInt + (1 : Int32).toInt := kd_add (oz12 p50_2 kn1) (oz474 c54 kn8 kn1)
                                  first | refine fo_goL mi_k71 fz71_78_2_80 [(3, .int (l3_50 + 1)), (2, .int l2_45), (1, .int l1_4), (0, .ref 49)] [] (by rfl) ?_ | refine fo_goL mi_k71 fz71_122_2_80 [(3, .int (l3_50 + 1)), (2, .int l2_45), (1, .int l1_4), (0, .ref 49)] [] (by rfl) ?_
                                  exact ih50 _ _ _ _ _ hJ384 (oz1023 c44 w379 kn8) (oz1024 c49 w347 kn8) (oz14 p50_2 s385 kn1) (kj_meas (oz475 s385 kn1) (oz476 c54 kn8) hm50)
                                by_cases w386 : l1_4.toInt = 4
                                ·
                                  refine ft_alx mi_k71 (pc := 114) (v := 4) (p := 80) (z := 85) (kj_eq w386 (by decide) : l1_4 = 4) (by decide +kernel) (by decide +kernel) ?_
                                  refine fo_goS mi_k71 fz71_115_1_116 [.int l3_50, .ref 85, .int ((a50 85).getD l1_4.toNatClampNeg 0), .int ((a50 85).getD l3_50.toNatClampNeg 0), .int l3_50, .ref 85] rfl ?_
                                  refine ko_iald3 mi_k71.1 (n := 8) (c := 8) (ax := (0, 0, 0, 0, 0)) (mi_k71.2 _ _ (by rfl)) (by rfl) (ksG85 _ _ _ _) (hL50.I.2.1 85) rfl (oz3 p50_2) (oz936 c54 kn8) ?_
                                  have b387 : ((-2147483648 : Int) ≤ ((a50 85).getD l1_4.toNatClampNeg 0).toInt) ∧ (((a50 85).getD l1_4.toNatClampNeg 0).toInt ≤ 2147483647) := kd_bd ((a50 85).getD l1_4.toNatClampNeg 0)
                                  have b388 : ((-2147483648 : Int) ≤ ((a50 85).getD l3_50.toNatClampNeg 0).toInt) ∧ (((a50 85).getD l3_50.toNatClampNeg 0).toInt ≤ 2147483647) := kd_bd ((a50 85).getD l3_50.toNatClampNeg 0)
                                  refine fo_goS mi_k71 fz71_117_1_118 [.int (((a50 85).getD l1_4.toNatClampNeg 0) + ((a50 85).getD l3_50.toNatClampNeg 0)), .int ((a50 85).getD l3_50.toNatClampNeg 0), .int l3_50, .ref 85] rfl ?_
                                  have m390 : (((bif decide ((((a50 85).getD l1_4.toNatClampNeg 0) + ((a50 85).getD l3_50.toNatClampNeg 0)) < ((a50 85).getD l3_50.toNatClampNeg 0)) then (((a50 85).getD l1_4.toNatClampNeg 0) + ((a50 85).getD l3_50.toNatClampNeg 0)) else ((a50 85).getD l3_50.toNatClampNeg 0)).toInt ≤ ((a50 85).getD l3_50.toNatClampNeg 0).toInt) ∧ ((bif decide ((((a50 85).getD l1_4.toNatClampNeg 0) + ((a50 85).getD l3_50.toNatClampNeg 0)) < ((a50 85).getD l3_50.toNatClampNeg 0)) then (((a50 85).getD l1_4.toNatClampNeg 0) + ((a50 85).getD l3_50.toNatClampNeg 0)) else ((a50 85).getD l3_50.toNatClampNeg 0)).toInt ≤ (((a50 85).getD l1_4.toNatClampNeg 0) + ((a50 85).getD l3_50.toNatClampNeg 0)).toInt)) ∧ ((bif decide ((((a50 85).getD l1_4.toNatClampNeg 0) + ((a50 85).getD l3_50.toNatClampNeg 0)) < ((a50 85).getD l3_50.toNatClampNeg 0)) then (((a50 85).getD l1_4.toNatClampNeg 0) + ((a50 85).getD l3_50.toNatClampNeg 0)) else ((a50 85).getD l3_50.toNatClampNeg 0)).toInt = ((a50 85).getD l3_50.toNatClampNeg 0).toInt ∨ (bif decide ((((a50 85).getD l1_4.toNatClampNeg 0) + ((a50 85).getD l3_50.toNatClampNeg 0)) < ((a50 85).getD l3_50.toNatClampNeg 0)) then (((a50 85).getD l1_4.toNatClampNeg 0) + ((a50 85).getD l3_50.toNatClampNeg 0)) else ((a50 85).getD l3_50.toNatClampNeg 0)).toInt = (((a50 85).getD l1_4.toNatClampNeg 0) + ((a50 85).getD l3_50.toNatClampNeg 0)).toInt) := kd_min
                                  first | refine ft_goS mi_k71 1 121 [.int (bif decide ((((a50 85).getD l1_4.toNatClampNeg 0) + ((a50 85).getD l3_50.toNatClampNeg 0)) < ((a50 85).getD l3_50.toNatClampNeg 0)) then (((a50 85).getD l1_4.toNatClampNeg 0) + ((a50 85).getD l3_50.toNatClampNeg 0)) else ((a50 85).getD l3_50.toNatClampNeg 0)), .int l3_50, .ref 85] (by rfl) ?_ | refine ft_go mi_k71 1 121 [(3, .int l3_50), (2, .int l2_45), (1, .int l1_4), (0, .ref 49)] [.int (bif decide ((((a50 85).getD l1_4.toNatClampNeg 0) + ((a50 85).getD l3_50.toNatClampNeg 0)) < ((a50 85).getD l3_50.toNatClampNeg 0)) then (((a50 85).getD l1_4.toNatClampNeg 0) + ((a50 85).getD l3_50.toNatClampNeg 0)) else ((a50 85).getD l3_50.toNatClampNeg 0)), .int l3_50, .ref 85] i50 a50 q50 r50 (by rfl) ?_ | refine ko_steps mi_in71 1 _ (121, [(3, .int l3_50), (2, .int l2_45), (1, .int l1_4), (0, .ref 49)], [.int (bif decide ((((a50 85).getD l1_4.toNatClampNeg 0) + ((a50 85).getD l3_50.toNatClampNeg 0)) < ((a50 85).getD l3_50.toNatClampNeg 0)) then (((a50 85).getD l1_4.toNatClampNeg 0) + ((a50 85).getD l3_50.toNatClampNeg 0)) else ((a50 85).getD l3_50.toNatClampNeg 0)), .int l3_50, .ref 85], (0, 0), ks i50 a50 q50 r50) (by rfl) ?_
                                  generalize (bif decide ((((a50 85).getD l1_4.toNatClampNeg 0) + ((a50 85).getD l3_50.toNatClampNeg 0)) < ((a50 85).getD l3_50.toNatClampNeg 0)) then (((a50 85).getD l1_4.toNatClampNeg 0) + ((a50 85).getD l3_50.toNatClampNeg 0)) else ((a50 85).getD l3_50.toNatClampNeg 0)) = m389 at m390 ⊢
                                  refine ko_iast3 mi_k71.1 (n := 8) (c := 8) (ax := (0, 0, 0, 0, 0)) (mi_k71.2 _ _ (by rfl)) (by rfl) (ksG85 _ _ _ _) (ksA85 _ _ _ _) (hL50.I.2.1 85) rfl (oz3 p50_2) (oz936 c54 kn8) ?_
                                  intro a391 ea391 fa391
                                  have hJ391 := kG_a3 hL50 85 rfl ea391 fa391 (kd_bd _)
                                  have s392 : (l3_50 + 1).toInt = l3_50.toInt + (1 : Int32).toInt := kd_add (oz12 p50_2 kn1) (oz474 c54 kn8 kn1)
                                  first | refine fo_goL mi_k71 fz71_78_2_80 [(3, .int (l3_50 + 1)), (2, .int l2_45), (1, .int l1_4), (0, .ref 49)] [] (by rfl) ?_ | refine fo_goL mi_k71 fz71_122_2_80 [(3, .int (l3_50 + 1)), (2, .int l2_45), (1, .int l1_4), (0, .ref 49)] [] (by rfl) ?_
                                  exact ih50 _ _ _ _ _ hJ391 (oz1024 c44 w386 kn8) (oz1024 c49 w347 kn8) (oz14 p50_2 s392 kn1) (kj_meas (oz475 s392 kn1) (oz476 c54 kn8) hm50)
                                by_cases w393 : l1_4.toInt = 5
                                ·
                                  refine ft_alx mi_k71 (pc := 114) (v := 5) (p := 80) (z := 86) (kj_eq w393 (by decide) : l1_4 = 5) (by decide +kernel) (by decide +kernel) ?_
                                  refine fo_goS mi_k71 fz71_115_1_116 [.int l3_50, .ref 86, .int ((a50 85).getD l1_4.toNatClampNeg 0), .int ((a50 85).getD l3_50.toNatClampNeg 0), .int l3_50, .ref 85] rfl ?_
                                  refine ko_iald3 mi_k71.1 (n := 8) (c := 8) (ax := (0, 0, 0, 0, 0)) (mi_k71.2 _ _ (by rfl)) (by rfl) (ksG86 _ _ _ _) (hL50.I.2.1 86) rfl (oz3 p50_2) (oz936 c54 kn8) ?_
                                  have b394 : ((-2147483648 : Int) ≤ ((a50 85).getD l1_4.toNatClampNeg 0).toInt) ∧ (((a50 85).getD l1_4.toNatClampNeg 0).toInt ≤ 2147483647) := kd_bd ((a50 85).getD l1_4.toNatClampNeg 0)
                                  have b395 : ((-2147483648 : Int) ≤ ((a50 86).getD l3_50.toNatClampNeg 0).toInt) ∧ (((a50 86).getD l3_50.toNatClampNeg 0).toInt ≤ 2147483647) := kd_bd ((a50 86).getD l3_50.toNatClampNeg 0)
                                  refine fo_goS mi_k71 fz71_117_1_118 [.int (((a50 85).getD l1_4.toNatClampNeg 0) + ((a50 86).getD l3_50.toNatClampNeg 0)), .int ((a50 85).getD l3_50.toNatClampNeg 0), .int l3_50, .ref 85] rfl ?_
                                  have m397 : (((bif decide ((((a50 85).getD l1_4.toNatClampNeg 0) + ((a50 86).getD l3_50.toNatClampNeg 0)) < ((a50 85).getD l3_50.toNatClampNeg 0)) then (((a50 85).getD l1_4.toNatClampNeg 0) + ((a50 86).getD l3_50.toNatClampNeg 0)) else ((a50 85).getD l3_50.toNatClampNeg 0)).toInt ≤ ((a50 85).getD l3_50.toNatClampNeg 0).toInt) ∧ ((bif decide ((((a50 85).getD l1_4.toNatClampNeg 0) + ((a50 86).getD l3_50.toNatClampNeg 0)) < ((a50 85).getD l3_50.toNatClampNeg 0)) then (((a50 85).getD l1_4.toNatClampNeg 0) + ((a50 86).getD l3_50.toNatClampNeg 0)) else ((a50 85).getD l3_50.toNatClampNeg 0)).toInt ≤ (((a50 85).getD l1_4.toNatClampNeg 0) + ((a50 86).getD l3_50.toNatClampNeg 0)).toInt)) ∧ ((bif decide ((((a50 85).getD l1_4.toNatClampNeg 0) + ((a50 86).getD l3_50.toNatClampNeg 0)) < ((a50 85).getD l3_50.toNatClampNeg 0)) then (((a50 85).getD l1_4.toNatClampNeg 0) + ((a50 86).getD l3_50.toNatClampNeg 0)) else ((a50 85).getD l3_50.toNatClampNeg 0)).toInt = ((a50 85).getD l3_50.toNatClampNeg 0).toInt ∨ (bif decide ((((a50 85).getD l1_4.toNatClampNeg 0) + ((a50 86).getD l3_50.toNatClampNeg 0)) < ((a50 85).getD l3_50.toNatClampNeg 0)) then (((a50 85).getD l1_4.toNatClampNeg 0) + ((a50 86).getD l3_50.toNatClampNeg 0)) else ((a50 85).getD l3_50.toNatClampNeg 0)).toInt = (((a50 85).getD l1_4.toNatClampNeg 0) + ((a50 86).getD l3_50.toNatClampNeg 0)).toInt) := kd_min
                                  first | refine ft_goS mi_k71 1 121 [.int (bif decide ((((a50 85).getD l1_4.toNatClampNeg 0) + ((a50 86).getD l3_50.toNatClampNeg 0)) < ((a50 85).getD l3_50.toNatClampNeg 0)) then (((a50 85).getD l1_4.toNatClampNeg 0) + ((a50 86).getD l3_50.toNatClampNeg 0)) else ((a50 85).getD l3_50.toNatClampNeg 0)), .int l3_50, .ref 85] (by rfl) ?_ | refine ft_go mi_k71 1 121 [(3, .int l3_50), (2, .int l2_45), (1, .int l1_4), (0, .ref 49)] [.int (bif decide ((((a50 85).getD l1_4.toNatClampNeg 0) + ((a50 86).getD l3_50.toNatClampNeg 0)) < ((a50 85).getD l3_50.toNatClampNeg 0)) then (((a50 85).getD l1_4.toNatClampNeg 0) + ((a50 86).getD l3_50.toNatClampNeg 0)) else ((a50 85).getD l3_50.toNatClampNeg 0)), .int l3_50, .ref 85] i50 a50 q50 r50 (by rfl) ?_ | refine ko_steps mi_in71 1 _ (121, [(3, .int l3_50), (2, .int l2_45), (1, .int l1_4), (0, .ref 49)], [.int (bif decide ((((a50 85).getD l1_4.toNatClampNeg 0) + ((a50 86).getD l3_50.toNatClampNeg 0)) < ((a50 85).getD l3_50.toNatClampNeg 0)) then (((a50 85).getD l1_4.toNatClampNeg 0) + ((a50 86).getD l3_50.toNatClampNeg 0)) else ((a50 85).getD l3_50.toNatClampNeg 0)), .int l3_50, .ref 85], (0, 0), ks i50 a50 q50 r50) (by rfl) ?_
                                  generalize (bif decide ((((a50 85).getD l1_4.toNatClampNeg 0) + ((a50 86).getD l3_50.toNatClampNeg 0)) < ((a50 85).getD l3_50.toNatClampNeg 0)) then (((a50 85).getD l1_4.toNatClampNeg 0) + ((a50 86).getD l3_50.toNatClampNeg 0)) else ((a50 85).getD l3_50.toNatClampNeg 0)) = m396 at m397 ⊢
                                  refine ko_iast3 mi_k71.1 (n := 8) (c := 8) (ax := (0, 0, 0, 0, 0)) (mi_k71.2 _ _ (by rfl)) (by rfl) (ksG85 _ _ _ _) (ksA85 _ _ _ _) (hL50.I.2.1 85) rfl (oz3 p50_2) (oz936 c54 kn8) ?_
                                  intro a398 ea398 fa398
                                  have hJ398 := kG_a3 hL50 85 rfl ea398 fa398 (kd_bd _)
                                  have s399 : (l3_50 + 1).toInt = l3_50.toInt + (1 : Int32).toInt := kd_add (oz12 p50_2 kn1) (oz474 c54 kn8 kn1)
                                  first | refine fo_goL mi_k71 fz71_78_2_80 [(3, .int (l3_50 + 1)), (2, .int l2_45), (1, .int l1_4), (0, .ref 49)] [] (by rfl) ?_ | refine fo_goL mi_k71 fz71_122_2_80 [(3, .int (l3_50 + 1)), (2, .int l2_45), (1, .int l1_4), (0, .ref 49)] [] (by rfl) ?_
                                  exact ih50 _ _ _ _ _ hJ398 (oz1025 c44 w393 kn8) (oz1024 c49 w347 kn8) (oz14 p50_2 s399 kn1) (kj_meas (oz475 s399 kn1) (oz476 c54 kn8) hm50)
                                by_cases w400 : l1_4.toInt = 6
                                ·
                                  refine ft_alx mi_k71 (pc := 114) (v := 6) (p := 80) (z := 87) (kj_eq w400 (by decide) : l1_4 = 6) (by decide +kernel) (by decide +kernel) ?_
                                  refine fo_goS mi_k71 fz71_115_1_116 [.int l3_50, .ref 87, .int ((a50 85).getD l1_4.toNatClampNeg 0), .int ((a50 85).getD l3_50.toNatClampNeg 0), .int l3_50, .ref 85] rfl ?_
                                  refine ko_iald3 mi_k71.1 (n := 8) (c := 8) (ax := (0, 0, 0, 0, 0)) (mi_k71.2 _ _ (by rfl)) (by rfl) (ksG87 _ _ _ _) (hL50.I.2.1 87) rfl (oz3 p50_2) (oz936 c54 kn8) ?_
                                  have b401 : ((-2147483648 : Int) ≤ ((a50 85).getD l1_4.toNatClampNeg 0).toInt) ∧ (((a50 85).getD l1_4.toNatClampNeg 0).toInt ≤ 2147483647) := kd_bd ((a50 85).getD l1_4.toNatClampNeg 0)
                                  have b402 : ((-2147483648 : Int) ≤ ((a50 87).getD l3_50.toNatClampNeg 0).toInt) ∧ (((a50 87).getD l3_50.toNatClampNeg 0).toInt ≤ 2147483647) := kd_bd ((a50 87).getD l3_50.toNatClampNeg 0)
                                  refine fo_goS mi_k71 fz71_117_1_118 [.int (((a50 85).getD l1_4.toNatClampNeg 0) + ((a50 87).getD l3_50.toNatClampNeg 0)), .int ((a50 85).getD l3_50.toNatClampNeg 0), .int l3_50, .ref 85] rfl ?_
                                  have m404 : (((bif decide ((((a50 85).getD l1_4.toNatClampNeg 0) + ((a50 87).getD l3_50.toNatClampNeg 0)) < ((a50 85).getD l3_50.toNatClampNeg 0)) then (((a50 85).getD l1_4.toNatClampNeg 0) + ((a50 87).getD l3_50.toNatClampNeg 0)) else ((a50 85).getD l3_50.toNatClampNeg 0)).toInt ≤ ((a50 85).getD l3_50.toNatClampNeg 0).toInt) ∧ ((bif decide ((((a50 85).getD l1_4.toNatClampNeg 0) + ((a50 87).getD l3_50.toNatClampNeg 0)) < ((a50 85).getD l3_50.toNatClampNeg 0)) then (((a50 85).getD l1_4.toNatClampNeg 0) + ((a50 87).getD l3_50.toNatClampNeg 0)) else ((a50 85).getD l3_50.toNatClampNeg 0)).toInt ≤ (((a50 85).getD l1_4.toNatClampNeg 0) + ((a50 87).getD l3_50.toNatClampNeg 0)).toInt)) ∧ ((bif decide ((((a50 85).getD l1_4.toNatClampNeg 0) + ((a50 87).getD l3_50.toNatClampNeg 0)) < ((a50 85).getD l3_50.toNatClampNeg 0)) then (((a50 85).getD l1_4.toNatClampNeg 0) + ((a50 87).getD l3_50.toNatClampNeg 0)) else ((a50 85).getD l3_50.toNatClampNeg 0)).toInt = ((a50 85).getD l3_50.toNatClampNeg 0).toInt ∨ (bif decide ((((a50 85).getD l1_4.toNatClampNeg 0) + ((a50 87).getD l3_50.toNatClampNeg 0)) < ((a50 85).getD l3_50.toNatClampNeg 0)) then (((a50 85).getD l1_4.toNatClampNeg 0) + ((a50 87).getD l3_50.toNatClampNeg 0)) else ((a50 85).getD l3_50.toNatClampNeg 0)).toInt = (((a50 85).getD l1_4.toNatClampNeg 0) + ((a50 87).getD l3_50.toNatClampNeg 0)).toInt) := kd_min
                                  first | refine ft_goS mi_k71 1 121 [.int (bif decide ((((a50 85).getD l1_4.toNatClampNeg 0) + ((a50 87).getD l3_50.toNatClampNeg 0)) < ((a50 85).getD l3_50.toNatClampNeg 0)) then (((a50 85).getD l1_4.toNatClampNeg 0) + ((a50 87).getD l3_50.toNatClampNeg 0)) else ((a50 85).getD l3_50.toNatClampNeg 0)), .int l3_50, .ref 85] (by rfl) ?_ | refine ft_go mi_k71 1 121 [(3, .int l3_50), (2, .int l2_45), (1, .int l1_4), (0, .ref 49)] [.int (bif decide ((((a50 85).getD l1_4.toNatClampNeg 0) + ((a50 87).getD l3_50.toNatClampNeg 0)) < ((a50 85).getD l3_50.toNatClampNeg 0)) then (((a50 85).getD l1_4.toNatClampNeg 0) + ((a50 87).getD l3_50.toNatClampNeg 0)) else ((a50 85).getD l3_50.toNatClampNeg 0)), .int l3_50, .ref 85] i50 a50 q50 r50 (by rfl) ?_ | refine ko_steps mi_in71 1 _ (121, [(3, .int l3_50), (2, .int l2_45), (1, .int l1_4), (0, .ref 49)], [.int (bif decide ((((a50 85).getD l1_4.toNatClampNeg 0) + ((a50 87).getD l3_50.toNatClampNeg 0)) < ((a50 85).getD l3_50.toNatClampNeg 0)) then (((a50 85).getD l1_4.toNatClampNeg 0) + ((a50 87).getD l3_50.toNatClampNeg 0)) else ((a50 85).getD l3_50.toNatClampNeg 0)), .int l3_50, .ref 85], (0, 0), ks i50 a50 q50 r50) (by rfl) ?_
                                  generalize (bif decide ((((a50 85).getD l1_4.toNatClampNeg 0) + ((a50 87).getD l3_50.toNatClampNeg 0)) < ((a50 85).getD l3_50.toNatClampNeg 0)) then (((a50 85).getD l1_4.toNatClampNeg 0) + ((a50 87).getD l3_50.toNatClampNeg 0)) else ((a50 85).getD l3_50.toNatClampNeg 0)) = m403 at m404 ⊢
                                  refine ko_iast3 mi_k71.1 (n := 8) (c := 8) (ax := (0, 0, 0, 0, 0)) (mi_k71.2 _ _ (by rfl)) (by rfl) (ksG85 _ _ _ _) (ksA85 _ _ _ _) (hL50.I.2.1 85) rfl (oz3 p50_2) (oz936 c54 kn8) ?_
                                  intro a405 ea405 fa405
                                  have hJ405 := kG_a3 hL50 85 rfl ea405 fa405 (kd_bd _)
                                  have s406 : (l3_50 + 1).toInt = l3_50.toInt + (1 : Int32).toInt := kd_add (oz12 p50_2 kn1) (oz474 c54 kn8 kn1)
                                  first | refine fo_goL mi_k71 fz71_78_2_80 [(3, .int (l3_50 + 1)), (2, .int l2_45), (1, .int l1_4), (0, .ref 49)] [] (by rfl) ?_ | refine fo_goL mi_k71 fz71_122_2_80 [(3, .int (l3_50 + 1)), (2, .int l2_45), (1, .int l1_4), (0, .ref 49)] [] (by rfl) ?_
                                  exact ih50 _ _ _ _ _ hJ405 (oz1026 c44 w400 kn8) (oz1024 c49 w347 kn8) (oz14 p50_2 s406 kn1) (kj_meas (oz475 s406 kn1) (oz476 c54 kn8) hm50)
                                by_cases w407 : l1_4.toInt = 7
                                ·
                                  refine ft_alx mi_k71 (pc := 114) (v := 7) (p := 80) (z := 88) (kj_eq w407 (by decide) : l1_4 = 7) (by decide +kernel) (by decide +kernel) ?_
                                  refine fo_goS mi_k71 fz71_115_1_116 [.int l3_50, .ref 88, .int ((a50 85).getD l1_4.toNatClampNeg 0), .int ((a50 85).getD l3_50.toNatClampNeg 0), .int l3_50, .ref 85] rfl ?_
                                  refine ko_iald3 mi_k71.1 (n := 8) (c := 8) (ax := (0, 0, 0, 0, 0)) (mi_k71.2 _ _ (by rfl)) (by rfl) (ksG88 _ _ _ _) (hL50.I.2.1 88) rfl (oz3 p50_2) (oz936 c54 kn8) ?_
                                  have b408 : ((-2147483648 : Int) ≤ ((a50 85).getD l1_4.toNatClampNeg 0).toInt) ∧ (((a50 85).getD l1_4.toNatClampNeg 0).toInt ≤ 2147483647) := kd_bd ((a50 85).getD l1_4.toNatClampNeg 0)
                                  have b409 : ((-2147483648 : Int) ≤ ((a50 88).getD l3_50.toNatClampNeg 0).toInt) ∧ (((a50 88).getD l3_50.toNatClampNeg 0).toInt ≤ 2147483647) := kd_bd ((a50 88).getD l3_50.toNatClampNeg 0)
                                  refine fo_goS mi_k71 fz71_117_1_118 [.int (((a50 85).getD l1_4.toNatClampNeg 0) + ((a50 88).getD l3_50.toNatClampNeg 0)), .int ((a50 85).getD l3_50.toNatClampNeg 0), .int l3_50, .ref 85] rfl ?_
                                  have m411 : (((bif decide ((((a50 85).getD l1_4.toNatClampNeg 0) + ((a50 88).getD l3_50.toNatClampNeg 0)) < ((a50 85).getD l3_50.toNatClampNeg 0)) then (((a50 85).getD l1_4.toNatClampNeg 0) + ((a50 88).getD l3_50.toNatClampNeg 0)) else ((a50 85).getD l3_50.toNatClampNeg 0)).toInt ≤ ((a50 85).getD l3_50.toNatClampNeg 0).toInt) ∧ ((bif decide ((((a50 85).getD l1_4.toNatClampNeg 0) + ((a50 88).getD l3_50.toNatClampNeg 0)) < ((a50 85).getD l3_50.toNatClampNeg 0)) then (((a50 85).getD l1_4.toNatClampNeg 0) + ((a50 88).getD l3_50.toNatClampNeg 0)) else ((a50 85).getD l3_50.toNatClampNeg 0)).toInt ≤ (((a50 85).getD l1_4.toNatClampNeg 0) + ((a50 88).getD l3_50.toNatClampNeg 0)).toInt)) ∧ ((bif decide ((((a50 85).getD l1_4.toNatClampNeg 0) + ((a50 88).getD l3_50.toNatClampNeg 0)) < ((a50 85).getD l3_50.toNatClampNeg 0)) then (((a50 85).getD l1_4.toNatClampNeg 0) + ((a50 88).getD l3_50.toNatClampNeg 0)) else ((a50 85).getD l3_50.toNatClampNeg 0)).toInt = ((a50 85).getD l3_50.toNatClampNeg 0).toInt ∨ (bif decide ((((a50 85).getD l1_4.toNatClampNeg 0) + ((a50 88).getD l3_50.toNatClampNeg 0)) < ((a50 85).getD l3_50.toNatClampNeg 0)) then (((a50 85).getD l1_4.toNatClampNeg 0) + ((a50 88).getD l3_50.toNatClampNeg 0)) else ((a50 85).getD l3_50.toNatClampNeg 0)).toInt = (((a50 85).getD l1_4.toNatClampNeg 0) + ((a50 88).getD l3_50.toNatClampNeg 0)).toInt) := kd_min
                                  first | refine ft_goS mi_k71 1 121 [.int (bif decide ((((a50 85).getD l1_4.toNatClampNeg 0) + ((a50 88).getD l3_50.toNatClampNeg 0)) < ((a50 85).getD l3_50.toNatClampNeg 0)) then (((a50 85).getD l1_4.toNatClampNeg 0) + ((a50 88).getD l3_50.toNatClampNeg 0)) else ((a50 85).getD l3_50.toNatClampNeg 0)), .int l3_50, .ref 85] (by rfl) ?_ | refine ft_go mi_k71 1 121 [(3, .int l3_50), (2, .int l2_45), (1, .int l1_4), (0, .ref 49)] [.int (bif decide ((((a50 85).getD l1_4.toNatClampNeg 0) + ((a50 88).getD l3_50.toNatClampNeg 0)) < ((a50 85).getD l3_50.toNatClampNeg 0)) then (((a50 85).getD l1_4.toNatClampNeg 0) + ((a50 88).getD l3_50.toNatClampNeg 0)) else ((a50 85).getD l3_50.toNatClampNeg 0)), .int l3_50, .ref 85] i50 a50 q50 r50 (by rfl) ?_ | refine ko_steps mi_in71 1 _ (121, [(3, .int l3_50), (2, .int l2_45), (1, .int l1_4), (0, .ref 49)], [.int (bif decide ((((a50 85).getD l1_4.toNatClampNeg 0) + ((a50 88).getD l3_50.toNatClampNeg 0)) < ((a50 85).getD l3_50.toNatClampNeg 0)) then (((a50 85).getD l1_4.toNatClampNeg 0) + ((a50 88).getD l3_50.toNatClampNeg 0)) else ((a50 85).getD l3_50.toNatClampNeg 0)), .int l3_50, .ref 85], (0, 0), ks i50 a50 q50 r50) (by rfl) ?_
                                  generalize (bif decide ((((a50 85).getD l1_4.toNatClampNeg 0) + ((a50 88).getD l3_50.toNatClampNeg 0)) < ((a50 85).getD l3_50.toNatClampNeg 0)) then (((a50 85).getD l1_4.toNatClampNeg 0) + ((a50 88).getD l3_50.toNatClampNeg 0)) else ((a50 85).getD l3_50.toNatClampNeg 0)) = m410 at m411 ⊢
                                  refine ko_iast3 mi_k71.1 (n := 8) (c := 8) (ax := (0, 0, 0, 0, 0)) (mi_k71.2 _ _ (by rfl)) (by rfl) (ksG85 _ _ _ _) (ksA85 _ _ _ _) (hL50.I.2.1 85) rfl (oz3 p50_2) (oz936 c54 kn8) ?_
                                  intro a412 ea412 fa412
                                  have hJ412 := kG_a3 hL50 85 rfl ea412 fa412 (kd_bd _)
                                  have s413 : (l3_50 + 1).toInt = l3_50.toInt + (1 : Int32).toInt := kd_add (oz12 p50_2 kn1) (oz474 c54 kn8 kn1)
                                  first | refine fo_goL mi_k71 fz71_78_2_80 [(3, .int (l3_50 + 1)), (2, .int l2_45), (1, .int l1_4), (0, .ref 49)] [] (by rfl) ?_ | refine fo_goL mi_k71 fz71_122_2_80 [(3, .int (l3_50 + 1)), (2, .int l2_45), (1, .int l1_4), (0, .ref 49)] [] (by rfl) ?_
                                  exact ih50 _ _ _ _ _ hJ412 (oz1027 c44 w407 kn8) (oz1024 c49 w347 kn8) (oz14 p50_2 s413 kn1) (kj_meas (oz475 s413 kn1) (oz476 c54 kn8) hm50)
                                exact (oz1028 c44 p4_0 w358 w365 w372 w379 w386 w393 w400 w407 kn8).elim
                              exact (oz1004 w347 w357).elim
                            exact (oz1004 w347 w352).elim
                          by_cases w420 : l2_45.toInt = 5
                          ·
                            refine ft_alx mi_k71 (pc := 91) (v := 5) (p := 80) (z := 86) (kj_eq w420 (by decide) : l2_45 = 5) (by decide +kernel) (by decide +kernel) ?_
                            refine fo_goS mi_k71 fz71_92_4_98 [.int l2_45, .ref 80, .int l3_50, .ref 86] rfl ?_
                            by_cases w426 : l2_45.toInt = 5
                            ·
                              refine ft_alx mi_k71 (pc := 98) (v := 5) (p := 80) (z := 86) (kj_eq w426 (by decide) : l2_45 = 5) (by decide +kernel) (by decide +kernel) ?_
                              refine fo_goS mi_k71 fz71_99_1_100 [.int l3_50, .ref 86, .int l3_50, .ref 86] rfl ?_
                              refine ko_iald3 mi_k71.1 (n := 8) (c := 8) (ax := (0, 0, 0, 0, 0)) (mi_k71.2 _ _ (by rfl)) (by rfl) (ksG86 _ _ _ _) (hL50.I.2.1 86) rfl (oz3 p50_2) (oz936 c54 kn8) ?_
                              refine fo_goS mi_k71 fz71_101_3_106 [.int l2_45, .ref 80, .int ((a50 86).getD l3_50.toNatClampNeg 0), .int l3_50, .ref 86] rfl ?_
                              by_cases w432 : l2_45.toInt = 5
                              ·
                                refine ft_alx mi_k71 (pc := 106) (v := 5) (p := 80) (z := 86) (kj_eq w432 (by decide) : l2_45 = 5) (by decide +kernel) (by decide +kernel) ?_
                                refine fo_goS mi_k71 fz71_107_1_108 [.int l1_4, .ref 86, .int ((a50 86).getD l3_50.toNatClampNeg 0), .int l3_50, .ref 86] rfl ?_
                                refine ko_iald3 mi_k71.1 (n := 8) (c := 8) (ax := (0, 0, 0, 0, 0)) (mi_k71.2 _ _ (by rfl)) (by rfl) (ksG86 _ _ _ _) (hL50.I.2.1 86) rfl (oz3 p4_0) (oz936 c44 kn8) ?_
                                refine fo_goS mi_k71 fz71_109_3_114 [.int l1_4, .ref 80, .int ((a50 86).getD l1_4.toNatClampNeg 0), .int ((a50 86).getD l3_50.toNatClampNeg 0), .int l3_50, .ref 86] rfl ?_
                                by_cases w433 : l1_4.toInt = 0
                                ·
                                  refine ft_alx mi_k71 (pc := 114) (v := 0) (p := 80) (z := 81) (kj_eq w433 (by decide) : l1_4 = 0) (by decide +kernel) (by decide +kernel) ?_
                                  refine fo_goS mi_k71 fz71_115_1_116 [.int l3_50, .ref 81, .int ((a50 86).getD l1_4.toNatClampNeg 0), .int ((a50 86).getD l3_50.toNatClampNeg 0), .int l3_50, .ref 86] rfl ?_
                                  refine ko_iald3 mi_k71.1 (n := 8) (c := 8) (ax := (0, 0, 0, 0, 0)) (mi_k71.2 _ _ (by rfl)) (by rfl) (ksG81 _ _ _ _) (hL50.I.2.1 81) rfl (oz3 p50_2) (oz936 c54 kn8) ?_
                                  have b434 : ((-2147483648 : Int) ≤ ((a50 86).getD l1_4.toNatClampNeg 0).toInt) ∧ (((a50 86).getD l1_4.toNatClampNeg 0).toInt ≤ 2147483647) := kd_bd ((a50 86).getD l1_4.toNatClampNeg 0)
                                  have b435 : ((-2147483648 : Int) ≤ ((a50 81).getD l3_50.toNatClampNeg 0).toInt) ∧ (((a50 81).getD l3_50.toNatClampNeg 0).toInt ≤ 2147483647) := kd_bd ((a50 81).getD l3_50.toNatClampNeg 0)
                                  refine fo_goS mi_k71 fz71_117_1_118 [.int (((a50 86).getD l1_4.toNatClampNeg 0) + ((a50 81).getD l3_50.toNatClampNeg 0)), .int ((a50 86).getD l3_50.toNatClampNeg 0), .int l3_50, .ref 86] rfl ?_
                                  have m437 : (((bif decide ((((a50 86).getD l1_4.toNatClampNeg 0) + ((a50 81).getD l3_50.toNatClampNeg 0)) < ((a50 86).getD l3_50.toNatClampNeg 0)) then (((a50 86).getD l1_4.toNatClampNeg 0) + ((a50 81).getD l3_50.toNatClampNeg 0)) else ((a50 86).getD l3_50.toNatClampNeg 0)).toInt ≤ ((a50 86).getD l3_50.toNatClampNeg 0).toInt) ∧ ((bif decide ((((a50 86).getD l1_4.toNatClampNeg 0) + ((a50 81).getD l3_50.toNatClampNeg 0)) < ((a50 86).getD l3_50.toNatClampNeg 0)) then (((a50 86).getD l1_4.toNatClampNeg 0) + ((a50 81).getD l3_50.toNatClampNeg 0)) else ((a50 86).getD l3_50.toNatClampNeg 0)).toInt ≤ (((a50 86).getD l1_4.toNatClampNeg 0) + ((a50 81).getD l3_50.toNatClampNeg 0)).toInt)) ∧ ((bif decide ((((a50 86).getD l1_4.toNatClampNeg 0) + ((a50 81).getD l3_50.toNatClampNeg 0)) < ((a50 86).getD l3_50.toNatClampNeg 0)) then (((a50 86).getD l1_4.toNatClampNeg 0) + ((a50 81).getD l3_50.toNatClampNeg 0)) else ((a50 86).getD l3_50.toNatClampNeg 0)).toInt = ((a50 86).getD l3_50.toNatClampNeg 0).toInt ∨ (bif decide ((((a50 86).getD l1_4.toNatClampNeg 0) + ((a50 81).getD l3_50.toNatClampNeg 0)) < ((a50 86).getD l3_50.toNatClampNeg 0)) then (((a50 86).getD l1_4.toNatClampNeg 0) + ((a50 81).getD l3_50.toNatClampNeg 0)) else ((a50 86).getD l3_50.toNatClampNeg 0)).toInt = (((a50 86).getD l1_4.toNatClampNeg 0) + ((a50 81).getD l3_50.toNatClampNeg 0)).toInt) := kd_min
                                  first | refine ft_goS mi_k71 1 121 [.int (bif decide ((((a50 86).getD l1_4.toNatClampNeg 0) + ((a50 81).getD l3_50.toNatClampNeg 0)) < ((a50 86).getD l3_50.toNatClampNeg 0)) then (((a50 86).getD l1_4.toNatClampNeg 0) + ((a50 81).getD l3_50.toNatClampNeg 0)) else ((a50 86).getD l3_50.toNatClampNeg 0)), .int l3_50, .ref 86] (by rfl) ?_ | refine ft_go mi_k71 1 121 [(3, .int l3_50), (2, .int l2_45), (1, .int l1_4), (0, .ref 49)] [.int (bif decide ((((a50 86).getD l1_4.toNatClampNeg 0) + ((a50 81).getD l3_50.toNatClampNeg 0)) < ((a50 86).getD l3_50.toNatClampNeg 0)) then (((a50 86).getD l1_4.toNatClampNeg 0) + ((a50 81).getD l3_50.toNatClampNeg 0)) else ((a50 86).getD l3_50.toNatClampNeg 0)), .int l3_50, .ref 86] i50 a50 q50 r50 (by rfl) ?_ | refine ko_steps mi_in71 1 _ (121, [(3, .int l3_50), (2, .int l2_45), (1, .int l1_4), (0, .ref 49)], [.int (bif decide ((((a50 86).getD l1_4.toNatClampNeg 0) + ((a50 81).getD l3_50.toNatClampNeg 0)) < ((a50 86).getD l3_50.toNatClampNeg 0)) then (((a50 86).getD l1_4.toNatClampNeg 0) + ((a50 81).getD l3_50.toNatClampNeg 0)) else ((a50 86).getD l3_50.toNatClampNeg 0)), .int l3_50, .ref 86], (0, 0), ks i50 a50 q50 r50) (by rfl) ?_
                                  generalize (bif decide ((((a50 86).getD l1_4.toNatClampNeg 0) + ((a50 81).getD l3_50.toNatClampNeg 0)) < ((a50 86).getD l3_50.toNatClampNeg 0)) then (((a50 86).getD l1_4.toNatClampNeg 0) + ((a50 81).getD l3_50.toNatClampNeg 0)) else ((a50 86).getD l3_50.toNatClampNeg 0)) = m436 at m437 ⊢
                                  refine ko_iast3 mi_k71.1 (n := 8) (c := 8) (ax := (0, 0, 0, 0, 0)) (mi_k71.2 _ _ (by rfl)) (by rfl) (ksG86 _ _ _ _) (ksA86 _ _ _ _) (hL50.I.2.1 86) rfl (oz3 p50_2) (oz936 c54 kn8) ?_
                                  intro a438 ea438 fa438
                                  have hJ438 := kG_a3 hL50 86 rfl ea438 fa438 (kd_bd _)
                                  have s439 : (l3_50 + 1).toInt = l3_50.toInt + (1 : Int32).toInt := kd_add (oz12 p50_2 kn1) (oz474 c54 kn8 kn1)
                                  first | refine fo_goL mi_k71 fz71_78_2_80 [(3, .int (l3_50 + 1)), (2, .int l2_45), (1, .int l1_4), (0, .ref 49)] [] (by rfl) ?_ | refine fo_goL mi_k71 fz71_122_2_80 [(3, .int (l3_50 + 1)), (2, .int l2_45), (1, .int l1_4), (0, .ref 49)] [] (by rfl) ?_
                                  exact ih50 _ _ _ _ _ hJ438 (oz488 c44 p4_0 kn8) (oz1025 c49 w420 kn8) (oz14 p50_2 s439 kn1) (kj_meas (oz475 s439 kn1) (oz476 c54 kn8) hm50)
                                by_cases w440 : l1_4.toInt = 1
                                ·
                                  refine ft_alx mi_k71 (pc := 114) (v := 1) (p := 80) (z := 82) (kj_eq w440 (by decide) : l1_4 = 1) (by decide +kernel) (by decide +kernel) ?_
                                  refine fo_goS mi_k71 fz71_115_1_116 [.int l3_50, .ref 82, .int ((a50 86).getD l1_4.toNatClampNeg 0), .int ((a50 86).getD l3_50.toNatClampNeg 0), .int l3_50, .ref 86] rfl ?_
                                  refine ko_iald3 mi_k71.1 (n := 8) (c := 8) (ax := (0, 0, 0, 0, 0)) (mi_k71.2 _ _ (by rfl)) (by rfl) (ksG82 _ _ _ _) (hL50.I.2.1 82) rfl (oz3 p50_2) (oz936 c54 kn8) ?_
                                  have b441 : ((-2147483648 : Int) ≤ ((a50 86).getD l1_4.toNatClampNeg 0).toInt) ∧ (((a50 86).getD l1_4.toNatClampNeg 0).toInt ≤ 2147483647) := kd_bd ((a50 86).getD l1_4.toNatClampNeg 0)
                                  have b442 : ((-2147483648 : Int) ≤ ((a50 82).getD l3_50.toNatClampNeg 0).toInt) ∧ (((a50 82).getD l3_50.toNatClampNeg 0).toInt ≤ 2147483647) := kd_bd ((a50 82).getD l3_50.toNatClampNeg 0)
                                  refine fo_goS mi_k71 fz71_117_1_118 [.int (((a50 86).getD l1_4.toNatClampNeg 0) + ((a50 82).getD l3_50.toNatClampNeg 0)), .int ((a50 86).getD l3_50.toNatClampNeg 0), .int l3_50, .ref 86] rfl ?_
                                  have m444 : (((bif decide ((((a50 86).getD l1_4.toNatClampNeg 0) + ((a50 82).getD l3_50.toNatClampNeg 0)) < ((a50 86).getD l3_50.toNatClampNeg 0)) then (((a50 86).getD l1_4.toNatClampNeg 0) + ((a50 82).getD l3_50.toNatClampNeg 0)) else ((a50 86).getD l3_50.toNatClampNeg 0)).toInt ≤ ((a50 86).getD l3_50.toNatClampNeg 0).toInt) ∧ ((bif decide ((((a50 86).getD l1_4.toNatClampNeg 0) + ((a50 82).getD l3_50.toNatClampNeg 0)) < ((a50 86).getD l3_50.toNatClampNeg 0)) then (((a50 86).getD l1_4.toNatClampNeg 0) + ((a50 82).getD l3_50.toNatClampNeg 0)) else ((a50 86).getD l3_50.toNatClampNeg 0)).toInt ≤ (((a50 86).getD l1_4.toNatClampNeg 0) + ((a50 82).getD l3_50.toNatClampNeg 0)).toInt)) ∧ ((bif decide ((((a50 86).getD l1_4.toNatClampNeg 0) + ((a50 82).getD l3_50.toNatClampNeg 0)) < ((a50 86).getD l3_50.toNatClampNeg 0)) then (((a50 86).getD l1_4.toNatClampNeg 0) + ((a50 82).getD l3_50.toNatClampNeg 0)) else ((a50 86).getD l3_50.toNatClampNeg 0)).toInt = ((a50 86).getD l3_50.toNatClampNeg 0).toInt ∨ (bif decide ((((a50 86).getD l1_4.toNatClampNeg 0) + ((a50 82).getD l3_50.toNatClampNeg 0)) < ((a50 86).getD l3_50.toNatClampNeg 0)) then (((a50 86).getD l1_4.toNatClampNeg 0) + ((a50 82).getD l3_50.toNatClampNeg 0)) else ((a50 86).getD l3_50.toNatClampNeg 0)).toInt = (((a50 86).getD l1_4.toNatClampNeg 0) + ((a50 82).getD l3_50.toNatClampNeg 0)).toInt) := kd_min
                                  first | refine ft_goS mi_k71 1 121 [.int (bif decide ((((a50 86).getD l1_4.toNatClampNeg 0) + ((a50 82).getD l3_50.toNatClampNeg 0)) < ((a50 86).getD l3_50.toNatClampNeg 0)) then (((a50 86).getD l1_4.toNatClampNeg 0) + ((a50 82).getD l3_50.toNatClampNeg 0)) else ((a50 86).getD l3_50.toNatClampNeg 0)), .int l3_50, .ref 86] (by rfl) ?_ | refine ft_go mi_k71 1 121 [(3, .int l3_50), (2, .int l2_45), (1, .int l1_4), (0, .ref 49)] [.int (bif decide ((((a50 86).getD l1_4.toNatClampNeg 0) + ((a50 82).getD l3_50.toNatClampNeg 0)) < ((a50 86).getD l3_50.toNatClampNeg 0)) then (((a50 86).getD l1_4.toNatClampNeg 0) + ((a50 82).getD l3_50.toNatClampNeg 0)) else ((a50 86).getD l3_50.toNatClampNeg 0)), .int l3_50, .ref 86] i50 a50 q50 r50 (by rfl) ?_ | refine ko_steps mi_in71 1 _ (121, [(3, .int l3_50), (2, .int l2_45), (1, .int l1_4), (0, .ref 49)], [.int (bif decide ((((a50 86).getD l1_4.toNatClampNeg 0) + ((a50 82).getD l3_50.toNatClampNeg 0)) < ((a50 86).getD l3_50.toNatClampNeg 0)) then (((a50 86).getD l1_4.toNatClampNeg 0) + ((a50 82).getD l3_50.toNatClampNeg 0)) else ((a50 86).getD l3_50.toNatClampNeg 0)), .int l3_50, .ref 86], (0, 0), ks i50 a50 q50 r50) (by rfl) ?_
                                  generalize (bif decide ((((a50 86).getD l1_4.toNatClampNeg 0) + ((a50 82).getD l3_50.toNatClampNeg 0)) < ((a50 86).getD l3_50.toNatClampNeg 0)) then (((a50 86).getD l1_4.toNatClampNeg 0) + ((a50 82).getD l3_50.toNatClampNeg 0)) else ((a50 86).getD l3_50.toNatClampNeg 0)) = m443 at m444 ⊢
                                  refine ko_iast3 mi_k71.1 (n := 8) (c := 8) (ax := (0, 0, 0, 0, 0)) (mi_k71.2 _ _ (by rfl)) (by rfl) (ksG86 _ _ _ _) (ksA86 _ _ _ _) (hL50.I.2.1 86) rfl (oz3 p50_2) (oz936 c54 kn8) ?_
                                  intro a445 ea445 fa445
                                  have hJ445 := kG_a3 hL50 86 rfl ea445 fa445 (kd_bd _)
                                  have s446 : (l3_50 + 1).toInt = l3_50.toInt + (1 : Int32).toInt := kd_add (oz12 p50_2 kn1) (oz474 c54 kn8 kn1)
                                  first | refine fo_goL mi_k71 fz71_78_2_80 [(3, .int (l3_50 + 1)), (2, .int l2_45), (1, .int l1_4), (0, .ref 49)] [] (by rfl) ?_ | refine fo_goL mi_k71 fz71_122_2_80 [(3, .int (l3_50 + 1)), (2, .int l2_45), (1, .int l1_4), (0, .ref 49)] [] (by rfl) ?_
                                  exact ih50 _ _ _ _ _ hJ445 (oz1021 c44 w440 kn8) (oz1025 c49 w420 kn8) (oz14 p50_2 s446 kn1) (kj_meas (oz475 s446 kn1) (oz476 c54 kn8) hm50)
                                by_cases w447 : l1_4.toInt = 2
                                ·
                                  refine ft_alx mi_k71 (pc := 114) (v := 2) (p := 80) (z := 83) (kj_eq w447 (by decide) : l1_4 = 2) (by decide +kernel) (by decide +kernel) ?_
                                  refine fo_goS mi_k71 fz71_115_1_116 [.int l3_50, .ref 83, .int ((a50 86).getD l1_4.toNatClampNeg 0), .int ((a50 86).getD l3_50.toNatClampNeg 0), .int l3_50, .ref 86] rfl ?_
                                  refine ko_iald3 mi_k71.1 (n := 8) (c := 8) (ax := (0, 0, 0, 0, 0)) (mi_k71.2 _ _ (by rfl)) (by rfl) (ksG83 _ _ _ _) (hL50.I.2.1 83) rfl (oz3 p50_2) (oz936 c54 kn8) ?_
                                  have b448 : ((-2147483648 : Int) ≤ ((a50 86).getD l1_4.toNatClampNeg 0).toInt) ∧ (((a50 86).getD l1_4.toNatClampNeg 0).toInt ≤ 2147483647) := kd_bd ((a50 86).getD l1_4.toNatClampNeg 0)
                                  have b449 : ((-2147483648 : Int) ≤ ((a50 83).getD l3_50.toNatClampNeg 0).toInt) ∧ (((a50 83).getD l3_50.toNatClampNeg 0).toInt ≤ 2147483647) := kd_bd ((a50 83).getD l3_50.toNatClampNeg 0)
                                  refine fo_goS mi_k71 fz71_117_1_118 [.int (((a50 86).getD l1_4.toNatClampNeg 0) + ((a50 83).getD l3_50.toNatClampNeg 0)), .int ((a50 86).getD l3_50.toNatClampNeg 0), .int l3_50, .ref 86] rfl ?_
                                  have m451 : (((bif decide ((((a50 86).getD l1_4.toNatClampNeg 0) + ((a50 83).getD l3_50.toNatClampNeg 0)) < ((a50 86).getD l3_50.toNatClampNeg 0)) then (((a50 86).getD l1_4.toNatClampNeg 0) + ((a50 83).getD l3_50.toNatClampNeg 0)) else ((a50 86).getD l3_50.toNatClampNeg 0)).toInt ≤ ((a50 86).getD l3_50.toNatClampNeg 0).toInt) ∧ ((bif decide ((((a50 86).getD l1_4.toNatClampNeg 0) + ((a50 83).getD l3_50.toNatClampNeg 0)) < ((a50 86).getD l3_50.toNatClampNeg 0)) then (((a50 86).getD l1_4.toNatClampNeg 0) + ((a50 83).getD l3_50.toNatClampNeg 0)) else ((a50 86).getD l3_50.toNatClampNeg 0)).toInt ≤ (((a50 86).getD l1_4.toNatClampNeg 0) + ((a50 83).getD l3_50.toNatClampNeg 0)).toInt)) ∧ ((bif decide ((((a50 86).getD l1_4.toNatClampNeg 0) + ((a50 83).getD l3_50.toNatClampNeg 0)) < ((a50 86).getD l3_50.toNatClampNeg 0)) then (((a50 86).getD l1_4.toNatClampNeg 0) + ((a50 83).getD l3_50.toNatClampNeg 0)) else ((a50 86).getD l3_50.toNatClampNeg 0)).toInt = ((a50 86).getD l3_50.toNatClampNeg 0).toInt ∨ (bif decide ((((a50 86).getD l1_4.toNatClampNeg 0) + ((a50 83).getD l3_50.toNatClampNeg 0)) < ((a50 86).getD l3_50.toNatClampNeg 0)) then (((a50 86).getD l1_4.toNatClampNeg 0) + ((a50 83).getD l3_50.toNatClampNeg 0)) else ((a50 86).getD l3_50.toNatClampNeg 0)).toInt = (((a50 86).getD l1_4.toNatClampNeg 0) + ((a50 83).getD l3_50.toNatClampNeg 0)).toInt) := kd_min
                                  first | refine ft_goS mi_k71 1 121 [.int (bif decide ((((a50 86).getD l1_4.toNatClampNeg 0) + ((a50 83).getD l3_50.toNatClampNeg 0)) < ((a50 86).getD l3_50.toNatClampNeg 0)) then (((a50 86).getD l1_4.toNatClampNeg 0) + ((a50 83).getD l3_50.toNatClampNeg 0)) else ((a50 86).getD l3_50.toNatClampNeg 0)), .int l3_50, .ref 86] (by rfl) ?_ | refine ft_go mi_k71 1 121 [(3, .int l3_50), (2, .int l2_45), (1, .int l1_4), (0, .ref 49)] [.int (bif decide ((((a50 86).getD l1_4.toNatClampNeg 0) + ((a50 83).getD l3_50.toNatClampNeg 0)) < ((a50 86).getD l3_50.toNatClampNeg 0)) then (((a50 86).getD l1_4.toNatClampNeg 0) + ((a50 83).getD l3_50.toNatClampNeg 0)) else ((a50 86).getD l3_50.toNatClampNeg 0)), .int l3_50, .ref 86] i50 a50 q50 r50 (by rfl) ?_ | refine ko_steps mi_in71 1 _ (121, [(3, .int l3_50), (2, .int l2_45), (1, .int l1_4), (0, .ref 49)], [.int (bif decide ((((a50 86).getD l1_4.toNatClampNeg 0) + ((a50 83).getD l3_50.toNatClampNeg 0)) < ((a50 86).getD l3_50.toNatClampNeg 0)) then (((a50 86).getD l1_4.toNatClampNeg 0) + ((a50 83).getD l3_50.toNatClampNeg 0)) else ((a50 86).getD l3_50.toNatClampNeg 0)), .int l3_50, .ref 86], (0, 0), ks i50 a50 q50 r50) (by rfl) ?_
                                  generalize (bif decide ((((a50 86).getD l1_4.toNatClampNeg 0) + ((a50 83).getD l3_50.toNatClampNeg 0)) < ((a50 86).getD l3_50.toNatClampNeg 0)) then (((a50 86).getD l1_4.toNatClampNeg 0) + ((a50 83).getD l3_50.toNatClampNeg 0)) else ((a50 86).getD l3_50.toNatClampNeg 0)) = m450 at m451 ⊢
                                  refine ko_iast3 mi_k71.1 (n := 8) (c := 8) (ax := (0, 0, 0, 0, 0)) (mi_k71.2 _ _ (by rfl)) (by rfl) (ksG86 _ _ _ _) (ksA86 _ _ _ _) (hL50.I.2.1 86) rfl (oz3 p50_2) (oz936 c54 kn8) ?_
                                  intro a452 ea452 fa452
                                  have hJ452 := kG_a3 hL50 86 rfl ea452 fa452 (kd_bd _)
                                  have s453 : (l3_50 + 1).toInt = l3_50.toInt + (1 : Int32).toInt := kd_add (oz12 p50_2 kn1) (oz474 c54 kn8 kn1)
                                  first | refine fo_goL mi_k71 fz71_78_2_80 [(3, .int (l3_50 + 1)), (2, .int l2_45), (1, .int l1_4), (0, .ref 49)] [] (by rfl) ?_ | refine fo_goL mi_k71 fz71_122_2_80 [(3, .int (l3_50 + 1)), (2, .int l2_45), (1, .int l1_4), (0, .ref 49)] [] (by rfl) ?_
                                  exact ih50 _ _ _ _ _ hJ452 (oz1022 c44 w447 kn8) (oz1025 c49 w420 kn8) (oz14 p50_2 s453 kn1) (kj_meas (oz475 s453 kn1) (oz476 c54 kn8) hm50)
                                by_cases w454 : l1_4.toInt = 3
                                ·
                                  refine ft_alx mi_k71 (pc := 114) (v := 3) (p := 80) (z := 84) (kj_eq w454 (by decide) : l1_4 = 3) (by decide +kernel) (by decide +kernel) ?_
                                  refine fo_goS mi_k71 fz71_115_1_116 [.int l3_50, .ref 84, .int ((a50 86).getD l1_4.toNatClampNeg 0), .int ((a50 86).getD l3_50.toNatClampNeg 0), .int l3_50, .ref 86] rfl ?_
                                  refine ko_iald3 mi_k71.1 (n := 8) (c := 8) (ax := (0, 0, 0, 0, 0)) (mi_k71.2 _ _ (by rfl)) (by rfl) (ksG84 _ _ _ _) (hL50.I.2.1 84) rfl (oz3 p50_2) (oz936 c54 kn8) ?_
                                  have b455 : ((-2147483648 : Int) ≤ ((a50 86).getD l1_4.toNatClampNeg 0).toInt) ∧ (((a50 86).getD l1_4.toNatClampNeg 0).toInt ≤ 2147483647) := kd_bd ((a50 86).getD l1_4.toNatClampNeg 0)
                                  have b456 : ((-2147483648 : Int) ≤ ((a50 84).getD l3_50.toNatClampNeg 0).toInt) ∧ (((a50 84).getD l3_50.toNatClampNeg 0).toInt ≤ 2147483647) := kd_bd ((a50 84).getD l3_50.toNatClampNeg 0)
                                  refine fo_goS mi_k71 fz71_117_1_118 [.int (((a50 86).getD l1_4.toNatClampNeg 0) + ((a50 84).getD l3_50.toNatClampNeg 0)), .int ((a50 86).getD l3_50.toNatClampNeg 0), .int l3_50, .ref 86] rfl ?_
                                  have m458 : (((bif decide ((((a50 86).getD l1_4.toNatClampNeg 0) + ((a50 84).getD l3_50.toNatClampNeg 0)) < ((a50 86).getD l3_50.toNatClampNeg 0)) then (((a50 86).getD l1_4.toNatClampNeg 0) + ((a50 84).getD l3_50.toNatClampNeg 0)) else ((a50 86).getD l3_50.toNatClampNeg 0)).toInt ≤ ((a50 86).getD l3_50.toNatClampNeg 0).toInt) ∧ ((bif decide ((((a50 86).getD l1_4.toNatClampNeg 0) + ((a50 84).getD l3_50.toNatClampNeg 0)) < ((a50 86).getD l3_50.toNatClampNeg 0)) then (((a50 86).getD l1_4.toNatClampNeg 0) + ((a50 84).getD l3_50.toNatClampNeg 0)) else ((a50 86).getD l3_50.toNatClampNeg 0)).toInt ≤ (((a50 86).getD l1_4.toNatClampNeg 0) + ((a50 84).getD l3_50.toNatClampNeg 0)).toInt)) ∧ ((bif decide ((((a50 86).getD l1_4.toNatClampNeg 0) + ((a50 84).getD l3_50.toNatClampNeg 0)) < ((a50 86).getD l3_50.toNatClampNeg 0)) then (((a50 86).getD l1_4.toNatClampNeg 0) + ((a50 84).getD l3_50.toNatClampNeg 0)) else ((a50 86).getD l3_50.toNatClampNeg 0)).toInt = ((a50 86).getD l3_50.toNatClampNeg 0).toInt ∨ (bif decide ((((a50 86).getD l1_4.toNatClampNeg 0) + ((a50 84).getD l3_50.toNatClampNeg 0)) < ((a50 86).getD l3_50.toNatClampNeg 0)) then (((a50 86).getD l1_4.toNatClampNeg 0) + ((a50 84).getD l3_50.toNatClampNeg 0)) else ((a50 86).getD l3_50.toNatClampNeg 0)).toInt = (((a50 86).getD l1_4.toNatClampNeg 0) + ((a50 84).getD l3_50.toNatClampNeg 0)).toInt) := kd_min
                                  first | refine ft_goS mi_k71 1 121 [.int (bif decide ((((a50 86).getD l1_4.toNatClampNeg 0) + ((a50 84).getD l3_50.toNatClampNeg 0)) < ((a50 86).getD l3_50.toNatClampNeg 0)) then (((a50 86).getD l1_4.toNatClampNeg 0) + ((a50 84).getD l3_50.toNatClampNeg 0)) else ((a50 86).getD l3_50.toNatClampNeg 0)), .int l3_50, .ref 86] (by rfl) ?_ | refine ft_go mi_k71 1 121 [(3, .int l3_50), (2, .int l2_45), (1, .int l1_4), (0, .ref 49)] [.int (bif decide ((((a50 86).getD l1_4.toNatClampNeg 0) + ((a50 84).getD l3_50.toNatClampNeg 0)) < ((a50 86).getD l3_50.toNatClampNeg 0)) then (((a50 86).getD l1_4.toNatClampNeg 0) + ((a50 84).getD l3_50.toNatClampNeg 0)) else ((a50 86).getD l3_50.toNatClampNeg 0)), .int l3_50, .ref 86] i50 a50 q50 r50 (by rfl) ?_ | refine ko_steps mi_in71 1 _ (121, [(3, .int l3_50), (2, .int l2_45), (1, .int l1_4), (0, .ref 49)], [.int (bif decide ((((a50 86).getD l1_4.toNatClampNeg 0) + ((a50 84).getD l3_50.toNatClampNeg 0)) < ((a50 86).getD l3_50.toNatClampNeg 0)) then (((a50 86).getD l1_4.toNatClampNeg 0) + ((a50 84).getD l3_50.toNatClampNeg 0)) else ((a50 86).getD l3_50.toNatClampNeg 0)), .int l3_50, .ref 86], (0, 0), ks i50 a50 q50 r50) (by rfl) ?_
                                  generalize (bif decide ((((a50 86).getD l1_4.toNatClampNeg 0) + ((a50 84).getD l3_50.toNatClampNeg 0)) < ((a50 86).getD l3_50.toNatClampNeg 0)) then (((a50 86).getD l1_4.toNatClampNeg 0) + ((a50 84).getD l3_50.toNatClampNeg 0)) else ((a50 86).getD l3_50.toNatClampNeg 0)) = m457 at m458 ⊢
                                  refine ko_iast3 mi_k71.1 (n := 8) (c := 8) (ax := (0, 0, 0, 0, 0)) (mi_k71.2 _ _ (by rfl)) (by rfl) (ksG86 _ _ _ _) (ksA86 _ _ _ _) (hL50.I.2.1 86) rfl (oz3 p50_2) (oz936 c54 kn8) ?_
                                  intro a459 ea459 fa459
                                  have hJ459 := kG_a3 hL50 86 rfl ea459 fa459 (kd_bd _)
                                  have s460 : (l3_50 + 1).toInt = l3_50.toInt + (1 : Int32).toInt := kd_add (oz12 p50_2 kn1) (oz474 c54 kn8 kn1)
                                  first | refine fo_goL mi_k71 fz71_78_2_80 [(3, .int (l3_50 + 1)), (2, .int l2_45), (1, .int l1_4), (0, .ref 49)] [] (by rfl) ?_ | refine fo_goL mi_k71 fz71_122_2_80 [(3, .int (l3_50 + 1)), (2, .int l2_45), (1, .int l1_4), (0, .ref 49)] [] (by rfl) ?_
                                  exact ih50 _ _ _ _ _ hJ459 (oz1023 c44 w454 kn8) (oz1025 c49 w420 kn8) (oz14 p50_2 s460 kn1) (kj_meas (oz475 s460 kn1) (oz476 c54 kn8) hm50)
                                by_cases w461 : l1_4.toInt = 4
                                ·
                                  refine ft_alx mi_k71 (pc := 114) (v := 4) (p := 80) (z := 85) (kj_eq w461 (by decide) : l1_4 = 4) (by decide +kernel) (by decide +kernel) ?_
                                  refine fo_goS mi_k71 fz71_115_1_116 [.int l3_50, .ref 85, .int ((a50 86).getD l1_4.toNatClampNeg 0), .int ((a50 86).getD l3_50.toNatClampNeg 0), .int l3_50, .ref 86] rfl ?_
                                  refine ko_iald3 mi_k71.1 (n := 8) (c := 8) (ax := (0, 0, 0, 0, 0)) (mi_k71.2 _ _ (by rfl)) (by rfl) (ksG85 _ _ _ _) (hL50.I.2.1 85) rfl (oz3 p50_2) (oz936 c54 kn8) ?_
                                  have b462 : ((-2147483648 : Int) ≤ ((a50 86).getD l1_4.toNatClampNeg 0).toInt) ∧ (((a50 86).getD l1_4.toNatClampNeg 0).toInt ≤ 2147483647) := kd_bd ((a50 86).getD l1_4.toNatClampNeg 0)
                                  have b463 : ((-2147483648 : Int) ≤ ((a50 85).getD l3_50.toNatClampNeg 0).toInt) ∧ (((a50 85).getD l3_50.toNatClampNeg 0).toInt ≤ 2147483647) := kd_bd ((a50 85).getD l3_50.toNatClampNeg 0)
                                  refine fo_goS mi_k71 fz71_117_1_118 [.int (((a50 86).getD l1_4.toNatClampNeg 0) + ((a50 85).getD l3_50.toNatClampNeg 0)), .int ((a50 86).getD l3_50.toNatClampNeg 0), .int l3_50, .ref 86] rfl ?_
                                  have m465 : (((bif decide ((((a50 86).getD l1_4.toNatClampNeg 0) + ((a50 85).getD l3_50.toNatClampNeg 0)) < ((a50 86).getD l3_50.toNatClampNeg 0)) then (((a50 86).getD l1_4.toNatClampNeg 0) + ((a50 85).getD l3_50.toNatClampNeg 0)) else ((a50 86).getD l3_50.toNatClampNeg 0)).toInt ≤ ((a50 86).getD l3_50.toNatClampNeg 0).toInt) ∧ ((bif decide ((((a50 86).getD l1_4.toNatClampNeg 0) + ((a50 85).getD l3_50.toNatClampNeg 0)) < ((a50 86).getD l3_50.toNatClampNeg 0)) then (((a50 86).getD l1_4.toNatClampNeg 0) + ((a50 85).getD l3_50.toNatClampNeg 0)) else ((a50 86).getD l3_50.toNatClampNeg 0)).toInt ≤ (((a50 86).getD l1_4.toNatClampNeg 0) + ((a50 85).getD l3_50.toNatClampNeg 0)).toInt)) ∧ ((bif decide ((((a50 86).getD l1_4.toNatClampNeg 0) + ((a50 85).getD l3_50.toNatClampNeg 0)) < ((a50 86).getD l3_50.toNatClampNeg 0)) then (((a50 86).getD l1_4.toNatClampNeg 0) + ((a50 85).getD l3_50.toNatClampNeg 0)) else ((a50 86).getD l3_50.toNatClampNeg 0)).toInt = ((a50 86).getD l3_50.toNatClampNeg 0).toInt ∨ (bif decide ((((a50 86).getD l1_4.toNatClampNeg 0) + ((a50 85).getD l3_50.toNatClampNeg 0)) < ((a50 86).getD l3_50.toNatClampNeg 0)) then (((a50 86).getD l1_4.toNatClampNeg 0) + ((a50 85).getD l3_50.toNatClampNeg 0)) else ((a50 86).getD l3_50.toNatClampNeg 0)).toInt = (((a50 86).getD l1_4.toNatClampNeg 0) + ((a50 85).getD l3_50.toNatClampNeg 0)).toInt) := kd_min
                                  first | refine ft_goS mi_k71 1 121 [.int (bif decide ((((a50 86).getD l1_4.toNatClampNeg 0) + ((a50 85).getD l3_50.toNatClampNeg 0)) < ((a50 86).getD l3_50.toNatClampNeg 0)) then (((a50 86).getD l1_4.toNatClampNeg 0) + ((a50 85).getD l3_50.toNatClampNeg 0)) else ((a50 86).getD l3_50.toNatClampNeg 0)), .int l3_50, .ref 86] (by rfl) ?_ | refine ft_go mi_k71 1 121 [(3, .int l3_50), (2, .int l2_45), (1, .int l1_4), (0, .ref 49)] [.int (bif decide ((((a50 86).getD l1_4.toNatClampNeg 0) + ((a50 85).getD l3_50.toNatClampNeg 0)) < ((a50 86).getD l3_50.toNatClampNeg 0)) then (((a50 86).getD l1_4.toNatClampNeg 0) + ((a50 85).getD l3_50.toNatClampNeg 0)) else ((a50 86).getD l3_50.toNatClampNeg 0)), .int l3_50, .ref 86] i50 a50 q50 r50 (by rfl) ?_ | refine ko_steps mi_in71 1 _ (121, [(3, .int l3_50), (2, .int l2_45), (1, .int l1_4), (0, .ref 49)], [.int (bif decide ((((a50 86).getD l1_4.toNatClampNeg 0) + ((a50 85).getD l3_50.toNatClampNeg 0)) < ((a50 86).getD l3_50.toNatClampNeg 0)) then (((a50 86).getD l1_4.toNatClampNeg 0) + ((a50 85).getD l3_50.toNatClampNeg 0)) else ((a50 86).getD l3_50.toNatClampNeg 0)), .int l3_50, .ref 86], (0, 0), ks i50 a50 q50 r50) (by rfl) ?_
                                  generalize (bif decide ((((a50 86).getD l1_4.toNatClampNeg 0) + ((a50 85).getD l3_50.toNatClampNeg 0)) < ((a50 86).getD l3_50.toNatClampNeg 0)) then (((a50 86).getD l1_4.toNatClampNeg 0) + ((a50 85).getD l3_50.toNatClampNeg 0)) else ((a50 86).getD l3_50.toNatClampNeg 0)) = m464 at m465 ⊢
                                  refine ko_iast3 mi_k71.1 (n := 8) (c := 8) (ax := (0, 0, 0, 0, 0)) (mi_k71.2 _ _ (by rfl)) (by rfl) (ksG86 _ _ _ _) (ksA86 _ _ _ _) (hL50.I.2.1 86) rfl (oz3 p50_2) (oz936 c54 kn8) ?_
                                  intro a466 ea466 fa466
                                  have hJ466 := kG_a3 hL50 86 rfl ea466 fa466 (kd_bd _)
                                  have s467 : (l3_50 + 1).toInt = l3_50.toInt + (1 : Int32).toInt := kd_add (oz12 p50_2 kn1) (oz474 c54 kn8 kn1)
                                  first | refine fo_goL mi_k71 fz71_78_2_80 [(3, .int (l3_50 + 1)), (2, .int l2_45), (1, .int l1_4), (0, .ref 49)] [] (by rfl) ?_ | refine fo_goL mi_k71 fz71_122_2_80 [(3, .int (l3_50 + 1)), (2, .int l2_45), (1, .int l1_4), (0, .ref 49)] [] (by rfl) ?_
                                  exact ih50 _ _ _ _ _ hJ466 (oz1024 c44 w461 kn8) (oz1025 c49 w420 kn8) (oz14 p50_2 s467 kn1) (kj_meas (oz475 s467 kn1) (oz476 c54 kn8) hm50)
                                by_cases w468 : l1_4.toInt = 5
                                ·
                                  refine ft_alx mi_k71 (pc := 114) (v := 5) (p := 80) (z := 86) (kj_eq w468 (by decide) : l1_4 = 5) (by decide +kernel) (by decide +kernel) ?_
                                  refine fo_goS mi_k71 fz71_115_1_116 [.int l3_50, .ref 86, .int ((a50 86).getD l1_4.toNatClampNeg 0), .int ((a50 86).getD l3_50.toNatClampNeg 0), .int l3_50, .ref 86] rfl ?_
                                  refine ko_iald3 mi_k71.1 (n := 8) (c := 8) (ax := (0, 0, 0, 0, 0)) (mi_k71.2 _ _ (by rfl)) (by rfl) (ksG86 _ _ _ _) (hL50.I.2.1 86) rfl (oz3 p50_2) (oz936 c54 kn8) ?_
                                  have b469 : ((-2147483648 : Int) ≤ ((a50 86).getD l1_4.toNatClampNeg 0).toInt) ∧ (((a50 86).getD l1_4.toNatClampNeg 0).toInt ≤ 2147483647) := kd_bd ((a50 86).getD l1_4.toNatClampNeg 0)
                                  have b470 : ((-2147483648 : Int) ≤ ((a50 86).getD l3_50.toNatClampNeg 0).toInt) ∧ (((a50 86).getD l3_50.toNatClampNeg 0).toInt ≤ 2147483647) := kd_bd ((a50 86).getD l3_50.toNatClampNeg 0)
                                  refine fo_goS mi_k71 fz71_117_1_118 [.int (((a50 86).getD l1_4.toNatClampNeg 0) + ((a50 86).getD l3_50.toNatClampNeg 0)), .int ((a50 86).getD l3_50.toNatClampNeg 0), .int l3_50, .ref 86] rfl ?_
                                  have m472 : (((bif decide ((((a50 86).getD l1_4.toNatClampNeg 0) + ((a50 86).getD l3_50.toNatClampNeg 0)) < ((a50 86).getD l3_50.toNatClampNeg 0)) then (((a50 86).getD l1_4.toNatClampNeg 0) + ((a50 86).getD l3_50.toNatClampNeg 0)) else ((a50 86).getD l3_50.toNatClampNeg 0)).toInt ≤ ((a50 86).getD l3_50.toNatClampNeg 0).toInt) ∧ ((bif decide ((((a50 86).getD l1_4.toNatClampNeg 0) + ((a50 86).getD l3_50.toNatClampNeg 0)) < ((a50 86).getD l3_50.toNatClampNeg 0)) then (((a50 86).getD l1_4.toNatClampNeg 0) + ((a50 86).getD l3_50.toNatClampNeg 0)) else ((a50 86).getD l3_50.toNatClampNeg 0)).toInt ≤ (((a50 86).getD l1_4.toNatClampNeg 0) + ((a50 86).getD l3_50.toNatClampNeg 0)).toInt)) ∧ ((bif decide ((((a50 86).getD l1_4.toNatClampNeg 0) + ((a50 86).getD l3_50.toNatClampNeg 0)) < ((a50 86).getD l3_50.toNatClampNeg 0)) then (((a50 86).getD l1_4.toNatClampNeg 0) + ((a50 86).getD l3_50.toNatClampNeg 0)) else ((a50 86).getD l3_50.toNatClampNeg 0)).toInt = ((a50 86).getD l3_50.toNatClampNeg 0).toInt ∨ (bif decide ((((a50 86).getD l1_4.toNatClampNeg 0) + ((a50 86).getD l3_50.toNatClampNeg 0)) < ((a50 86).getD l3_50.toNatClampNeg 0)) then (((a50 86).getD l1_4.toNatClampNeg 0) + ((a50 86).getD l3_50.toNatClampNeg 0)) else ((a50 86).getD l3_50.toNatClampNeg 0)).toInt = (((a50 86).getD l1_4.toNatClampNeg 0) + ((a50 86).getD l3_50.toNatClampNeg 0)).toInt) := kd_min
                                  first | refine ft_goS mi_k71 1 121 [.int (bif decide ((((a50 86).getD l1_4.toNatClampNeg 0) + ((a50 86).getD l3_50.toNatClampNeg 0)) < ((a50 86).getD l3_50.toNatClampNeg 0)) then (((a50 86).getD l1_4.toNatClampNeg 0) + ((a50 86).getD l3_50.toNatClampNeg 0)) else ((a50 86).getD l3_50.toNatClampNeg 0)), .int l3_50, .ref 86] (by rfl) ?_ | refine ft_go mi_k71 1 121 [(3, .int l3_50), (2, .int l2_45), (1, .int l1_4), (0, .ref 49)] [.int (bif decide ((((a50 86).getD l1_4.toNatClampNeg 0) + ((a50 86).getD l3_50.toNatClampNeg 0)) < ((a50 86).getD l3_50.toNatClampNeg 0)) then (((a50 86).getD l1_4.toNatClampNeg 0) + ((a50 86).getD l3_50.toNatClampNeg 0)) else ((a50 86).getD l3_50.toNatClampNeg 0)), .int l3_50, .ref 86] i50 a50 q50 r50 (by rfl) ?_ | refine ko_steps mi_in71 1 _ (121, [(3, .int l3_50), (2, .int l2_45), (1, .int l1_4), (0, .ref 49)], [.int (bif decide ((((a50 86).getD l1_4.toNatClampNeg 0) + ((a50 86).getD l3_50.toNatClampNeg 0)) < ((a50 86).getD l3_50.toNatClampNeg 0)) then (((a50 86).getD l1_4.toNatClampNeg 0) + ((a50 86).getD l3_50.toNatClampNeg 0)) else ((a50 86).getD l3_50.toNatClampNeg 0)), .int l3_50, .ref 86], (0, 0), ks i50 a50 q50 r50) (by rfl) ?_
                                  generalize (bif decide ((((a50 86).getD l1_4.toNatClampNeg 0) + ((a50 86).getD l3_50.toNatClampNeg 0)) < ((a50 86).getD l3_50.toNatClampNeg 0)) then (((a50 86).getD l1_4.toNatClampNeg 0) + ((a50 86).getD l3_50.toNatClampNeg 0)) else ((a50 86).getD l3_50.toNatClampNeg 0)) = m471 at m472 ⊢
                                  refine ko_iast3 mi_k71.1 (n := 8) (c := 8) (ax := (0, 0, 0, 0, 0)) (mi_k71.2 _ _ (by rfl)) (by rfl) (ksG86 _ _ _ _) (ksA86 _ _ _ _) (hL50.I.2.1 86) rfl (oz3 p50_2) (oz936 c54 kn8) ?_
                                  intro a473 ea473 fa473
                                  have hJ473 := kG_a3 hL50 86 rfl ea473 fa473 (kd_bd _)
                                  have s474 : (l3_50 + 1).toInt = l3_50.toInt + (1 : Int32).toInt := kd_add (oz12 p50_2 kn1) (oz474 c54 kn8 kn1)
                                  first | refine fo_goL mi_k71 fz71_78_2_80 [(3, .int (l3_50 + 1)), (2, .int l2_45), (1, .int l1_4), (0, .ref 49)] [] (by rfl) ?_ | refine fo_goL mi_k71 fz71_122_2_80 [(3, .int (l3_50 + 1)), (2, .int l2_45), (1, .int l1_4), (0, .ref 49)] [] (by rfl) ?_
                                  exact ih50 _ _ _ _ _ hJ473 (oz1025 c44 w468 kn8) (oz1025 c49 w420 kn8) (oz14 p50_2 s474 kn1) (kj_meas (oz475 s474 kn1) (oz476 c54 kn8) hm50)
                                by_cases w475 : l1_4.toInt = 6
                                ·
                                  refine ft_alx mi_k71 (pc := 114) (v := 6) (p := 80) (z := 87) (kj_eq w475 (by decide) : l1_4 = 6) (by decide +kernel) (by decide +kernel) ?_
                                  refine fo_goS mi_k71 fz71_115_1_116 [.int l3_50, .ref 87, .int ((a50 86).getD l1_4.toNatClampNeg 0), .int ((a50 86).getD l3_50.toNatClampNeg 0), .int l3_50, .ref 86] rfl ?_
                                  refine ko_iald3 mi_k71.1 (n := 8) (c := 8) (ax := (0, 0, 0, 0, 0)) (mi_k71.2 _ _ (by rfl)) (by rfl) (ksG87 _ _ _ _) (hL50.I.2.1 87) rfl (oz3 p50_2) (oz936 c54 kn8) ?_
                                  have b476 : ((-2147483648 : Int) ≤ ((a50 86).getD l1_4.toNatClampNeg 0).toInt) ∧ (((a50 86).getD l1_4.toNatClampNeg 0).toInt ≤ 2147483647) := kd_bd ((a50 86).getD l1_4.toNatClampNeg 0)
                                  have b477 : ((-2147483648 : Int) ≤ ((a50 87).getD l3_50.toNatClampNeg 0).toInt) ∧ (((a50 87).getD l3_50.toNatClampNeg 0).toInt ≤ 2147483647) := kd_bd ((a50 87).getD l3_50.toNatClampNeg 0)
                                  refine fo_goS mi_k71 fz71_117_1_118 [.int (((a50 86).getD l1_4.toNatClampNeg 0) + ((a50 87).getD l3_50.toNatClampNeg 0)), .int ((a50 86).getD l3_50.toNatClampNeg 0), .int l3_50, .ref 86] rfl ?_
                                  have m479 : (((bif decide ((((a50 86).getD l1_4.toNatClampNeg 0) + ((a50 87).getD l3_50.toNatClampNeg 0)) < ((a50 86).getD l3_50.toNatClampNeg 0)) then (((a50 86).getD l1_4.toNatClampNeg 0) + ((a50 87).getD l3_50.toNatClampNeg 0)) else ((a50 86).getD l3_50.toNatClampNeg 0)).toInt ≤ ((a50 86).getD l3_50.toNatClampNeg 0).toInt) ∧ ((bif decide ((((a50 86).getD l1_4.toNatClampNeg 0) + ((a50 87).getD l3_50.toNatClampNeg 0)) < ((a50 86).getD l3_50.toNatClampNeg 0)) then (((a50 86).getD l1_4.toNatClampNeg 0) + ((a50 87).getD l3_50.toNatClampNeg 0)) else ((a50 86).getD l3_50.toNatClampNeg 0)).toInt ≤ (((a50 86).getD l1_4.toNatClampNeg 0) + ((a50 87).getD l3_50.toNatClampNeg 0)).toInt)) ∧ ((bif decide ((((a50 86).getD l1_4.toNatClampNeg 0) + ((a50 87).getD l3_50.toNatClampNeg 0)) < ((a50 86).getD l3_50.toNatClampNeg 0)) then (((a50 86).getD l1_4.toNatClampNeg 0) + ((a50 87).getD l3_50.toNatClampNeg 0)) else ((a50 86).getD l3_50.toNatClampNeg 0)).toInt = ((a50 86).getD l3_50.toNatClampNeg 0).toInt ∨ (bif decide ((((a50 86).getD l1_4.toNatClampNeg 0) + ((a50 87).getD l3_50.toNatClampNeg 0)) < ((a50 86).getD l3_50.toNatClampNeg 0)) then (((a50 86).getD l1_4.toNatClampNeg 0) + ((a50 87).getD l3_50.toNatClampNeg 0)) else ((a50 86).getD l3_50.toNatClampNeg 0)).toInt = (((a50 86).getD l1_4.toNatClampNeg 0) + ((a50 87).getD l3_50.toNatClampNeg 0)).toInt) := kd_min
                                  first | refine ft_goS mi_k71 1 121 [.int (bif decide ((((a50 86).getD l1_4.toNatClampNeg 0) + ((a50 87).getD l3_50.toNatClampNeg 0)) < ((a50 86).getD l3_50.toNatClampNeg 0)) then (((a50 86).getD l1_4.toNatClampNeg 0) + ((a50 87).getD l3_50.toNatClampNeg 0)) else ((a50 86).getD l3_50.toNatClampNeg 0)), .int l3_50, .ref 86] (by rfl) ?_ | refine ft_go mi_k71 1 121 [(3, .int l3_50), (2, .int l2_45), (1, .int l1_4), (0, .ref 49)] [.int (bif decide ((((a50 86).getD l1_4.toNatClampNeg 0) + ((a50 87).getD l3_50.toNatClampNeg 0)) < ((a50 86).getD l3_50.toNatClampNeg 0)) then (((a50 86).getD l1_4.toNatClampNeg 0) + ((a50 87).getD l3_50.toNatClampNeg 0)) else ((a50 86).getD l3_50.toNatClampNeg 0)), .int l3_50, .ref 86] i50 a50 q50 r50 (by rfl) ?_ | refine ko_steps mi_in71 1 _ (121, [(3, .int l3_50), (2, .int l2_45), (1, .int l1_4), (0, .ref 49)], [.int (bif decide ((((a50 86).getD l1_4.toNatClampNeg 0) + ((a50 87).getD l3_50.toNatClampNeg 0)) < ((a50 86).getD l3_50.toNatClampNeg 0)) then (((a50 86).getD l1_4.toNatClampNeg 0) + ((a50 87).getD l3_50.toNatClampNeg 0)) else ((a50 86).getD l3_50.toNatClampNeg 0)), .int l3_50, .ref 86], (0, 0), ks i50 a50 q50 r50) (by rfl) ?_
                                  generalize (bif decide ((((a50 86).getD l1_4.toNatClampNeg 0) + ((a50 87).getD l3_50.toNatClampNeg 0)) < ((a50 86).getD l3_50.toNatClampNeg 0)) then (((a50 86).getD l1_4.toNatClampNeg 0) + ((a50 87).getD l3_50.toNatClampNeg 0)) else ((a50 86).getD l3_50.toNatClampNeg 0)) = m478 at m479 ⊢
                                  refine ko_iast3 mi_k71.1 (n := 8) (c := 8) (ax := (0, 0, 0, 0, 0)) (mi_k71.2 _ _ (by rfl)) (by rfl) (ksG86 _ _ _ _) (ksA86 _ _ _ _) (hL50.I.2.1 86) rfl (oz3 p50_2) (oz936 c54 kn8) ?_
                                  intro a480 ea480 fa480
                                  have hJ480 := kG_a3 hL50 86 rfl ea480 fa480 (kd_bd _)
                                  have s481 : (l3_50 + 1).toInt = l3_50.toInt + (1 : Int32).toInt := kd_add (oz12 p50_2 kn1) (oz474 c54 kn8 kn1)
                                  first | refine fo_goL mi_k71 fz71_78_2_80 [(3, .int (l3_50 + 1)), (2, .int l2_45), (1, .int l1_4), (0, .ref 49)] [] (by rfl) ?_ | refine fo_goL mi_k71 fz71_122_2_80 [(3, .int (l3_50 + 1)), (2, .int l2_45), (1, .int l1_4), (0, .ref 49)] [] (by rfl) ?_
                                  exact ih50 _ _ _ _ _ hJ480 (oz1026 c44 w475 kn8) (oz1025 c49 w420 kn8) (oz14 p50_2 s481 kn1) (kj_meas (oz475 s481 kn1) (oz476 c54 kn8) hm50)
                                by_cases w482 : l1_4.toInt = 7
                                ·
                                  refine ft_alx mi_k71 (pc := 114) (v := 7) (p := 80) (z := 88) (kj_eq w482 (by decide) : l1_4 = 7) (by decide +kernel) (by decide +kernel) ?_
                                  refine fo_goS mi_k71 fz71_115_1_116 [.int l3_50, .ref 88, .int ((a50 86).getD l1_4.toNatClampNeg 0), .int ((a50 86).getD l3_50.toNatClampNeg 0), .int l3_50, .ref 86] rfl ?_
                                  refine ko_iald3 mi_k71.1 (n := 8) (c := 8) (ax := (0, 0, 0, 0, 0)) (mi_k71.2 _ _ (by rfl)) (by rfl) (ksG88 _ _ _ _) (hL50.I.2.1 88) rfl (oz3 p50_2) (oz936 c54 kn8) ?_
                                  have b483 : ((-2147483648 : Int) ≤ ((a50 86).getD l1_4.toNatClampNeg 0).toInt) ∧ (((a50 86).getD l1_4.toNatClampNeg 0).toInt ≤ 2147483647) := kd_bd ((a50 86).getD l1_4.toNatClampNeg 0)
                                  have b484 : ((-2147483648 : Int) ≤ ((a50 88).getD l3_50.toNatClampNeg 0).toInt) ∧ (((a50 88).getD l3_50.toNatClampNeg 0).toInt ≤ 2147483647) := kd_bd ((a50 88).getD l3_50.toNatClampNeg 0)
                                  refine fo_goS mi_k71 fz71_117_1_118 [.int (((a50 86).getD l1_4.toNatClampNeg 0) + ((a50 88).getD l3_50.toNatClampNeg 0)), .int ((a50 86).getD l3_50.toNatClampNeg 0), .int l3_50, .ref 86] rfl ?_
                                  have m486 : (((bif decide ((((a50 86).getD l1_4.toNatClampNeg 0) + ((a50 88).getD l3_50.toNatClampNeg 0)) < ((a50 86).getD l3_50.toNatClampNeg 0)) then (((a50 86).getD l1_4.toNatClampNeg 0) + ((a50 88).getD l3_50.toNatClampNeg 0)) else ((a50 86).getD l3_50.toNatClampNeg 0)).toInt ≤ ((a50 86).getD l3_50.toNatClampNeg 0).toInt) ∧ ((bif decide ((((a50 86).getD l1_4.toNatClampNeg 0) + ((a50 88).getD l3_50.toNatClampNeg 0)) < ((a50 86).getD l3_50.toNatClampNeg 0)) then (((a50 86).getD l1_4.toNatClampNeg 0) + ((a50 88).getD l3_50.toNatClampNeg 0)) else ((a50 86).getD l3_50.toNatClampNeg 0)).toInt ≤ (((a50 86).getD l1_4.toNatClampNeg 0) + ((a50 88).getD l3_50.toNatClampNeg 0)).toInt)) ∧ ((bif decide ((((a50 86).getD l1_4.toNatClampNeg 0) + ((a50 88).getD l3_50.toNatClampNeg 0)) < ((a50 86).getD l3_50.toNatClampNeg 0)) then (((a50 86).getD l1_4.toNatClampNeg 0) + ((a50 88).getD l3_50.toNatClampNeg 0)) else ((a50 86).getD l3_50.toNatClampNeg 0)).toInt = ((a50 86).getD l3_50.toNatClampNeg 0).toInt ∨ (bif decide ((((a50 86).getD l1_4.toNatClampNeg 0) + ((a50 88).getD l3_50.toNatClampNeg 0)) < ((a50 86).getD l3_50.toNatClampNeg 0)) then (((a50 86).getD l1_4.toNatClampNeg 0) + ((a50 88).getD l3_50.toNatClampNeg 0)) else ((a50 86).getD l3_50.toNatClampNeg 0)).toInt = (((a50 86).getD l1_4.toNatClampNeg 0) + ((a50 88).getD l3_50.toNatClampNeg 0)).toInt) := kd_min
                                  first | refine ft_goS mi_k71 1 121 [.int (bif decide ((((a50 86).getD l1_4.toNatClampNeg 0) + ((a50 88).getD l3_50.toNatClampNeg 0)) < ((a50 86).getD l3_50.toNatClampNeg 0)) then (((a50 86).getD l1_4.toNatClampNeg 0) + ((a50 88).getD l3_50.toNatClampNeg 0)) else ((a50 86).getD l3_50.toNatClampNeg 0)), .int l3_50, .ref 86] (by rfl) ?_ | refine ft_go mi_k71 1 121 [(3, .int l3_50), (2, .int l2_45), (1, .int l1_4), (0, .ref 49)] [.int (bif decide ((((a50 86).getD l1_4.toNatClampNeg 0) + ((a50 88).getD l3_50.toNatClampNeg 0)) < ((a50 86).getD l3_50.toNatClampNeg 0)) then (((a50 86).getD l1_4.toNatClampNeg 0) + ((a50 88).getD l3_50.toNatClampNeg 0)) else ((a50 86).getD l3_50.toNatClampNeg 0)), .int l3_50, .ref 86] i50 a50 q50 r50 (by rfl) ?_ | refine ko_steps mi_in71 1 _ (121, [(3, .int l3_50), (2, .int l2_45), (1, .int l1_4), (0, .ref 49)], [.int (bif decide ((((a50 86).getD l1_4.toNatClampNeg 0) + ((a50 88).getD l3_50.toNatClampNeg 0)) < ((a50 86).getD l3_50.toNatClampNeg 0)) then (((a50 86).getD l1_4.toNatClampNeg 0) + ((a50 88).getD l3_50.toNatClampNeg 0)) else ((a50 86).getD l3_50.toNatClampNeg 0)), .int l3_50, .ref 86], (0, 0), ks i50 a50 q50 r50) (by rfl) ?_
                                  generalize (bif decide ((((a50 86).getD l1_4.toNatClampNeg 0) + ((a50 88).getD l3_50.toNatClampNeg 0)) < ((a50 86).getD l3_50.toNatClampNeg 0)) then (((a50 86).getD l1_4.toNatClampNeg 0) + ((a50 88).getD l3_50.toNatClampNeg 0)) else ((a50 86).getD l3_50.toNatClampNeg 0)) = m485 at m486 ⊢
                                  refine ko_iast3 mi_k71.1 (n := 8) (c := 8) (ax := (0, 0, 0, 0, 0)) (mi_k71.2 _ _ (by rfl)) (by rfl) (ksG86 _ _ _ _) (ksA86 _ _ _ _) (hL50.I.2.1 86) rfl (oz3 p50_2) (oz936 c54 kn8) ?_
                                  intro a487 ea487 fa487
                                  have hJ487 := kG_a3 hL50 86 rfl ea487 fa487 (kd_bd _)
                                  have s488 : (l3_50 + 1).toInt = l3_50.toInt + (1 : Int32).toInt := kd_add (oz12 p50_2 kn1) (oz474 c54 kn8 kn1)
                                  first | refine fo_goL mi_k71 fz71_78_2_80 [(3, .int (l3_50 + 1)), (2, .int l2_45), (1, .int l1_4), (0, .ref 49)] [] (by rfl) ?_ | refine fo_goL mi_k71 fz71_122_2_80 [(3, .int (l3_50 + 1)), (2, .int l2_45), (1, .int l1_4), (0, .ref 49)] [] (by rfl) ?_
                                  exact ih50 _ _ _ _ _ hJ487 (oz1027 c44 w482 kn8) (oz1025 c49 w420 kn8) (oz14 p50_2 s488 kn1) (kj_meas (oz475 s488 kn1) (oz476 c54 kn8) hm50)
                                exact (oz1028 c44 p4_0 w433 w440 w447 w454 w461 w468 w475 w482 kn8).elim
                              exact (oz1143_m w420 w432).elim
                            exact (oz1143_m w420 w426).elim
                          by_cases w493 : l2_45.toInt = 6
                          ·
                            refine ft_alx mi_k71 (pc := 91) (v := 6) (p := 80) (z := 87) (kj_eq w493 (by decide) : l2_45 = 6) (by decide +kernel) (by decide +kernel) ?_
                            refine fo_goS mi_k71 fz71_92_4_98 [.int l2_45, .ref 80, .int l3_50, .ref 87] rfl ?_
                            by_cases w500 : l2_45.toInt = 6
                            ·
                              refine ft_alx mi_k71 (pc := 98) (v := 6) (p := 80) (z := 87) (kj_eq w500 (by decide) : l2_45 = 6) (by decide +kernel) (by decide +kernel) ?_
                              refine fo_goS mi_k71 fz71_99_1_100 [.int l3_50, .ref 87, .int l3_50, .ref 87] rfl ?_
                              refine ko_iald3 mi_k71.1 (n := 8) (c := 8) (ax := (0, 0, 0, 0, 0)) (mi_k71.2 _ _ (by rfl)) (by rfl) (ksG87 _ _ _ _) (hL50.I.2.1 87) rfl (oz3 p50_2) (oz936 c54 kn8) ?_
                              refine fo_goS mi_k71 fz71_101_3_106 [.int l2_45, .ref 80, .int ((a50 87).getD l3_50.toNatClampNeg 0), .int l3_50, .ref 87] rfl ?_
                              by_cases w507 : l2_45.toInt = 6
                              ·
                                refine ft_alx mi_k71 (pc := 106) (v := 6) (p := 80) (z := 87) (kj_eq w507 (by decide) : l2_45 = 6) (by decide +kernel) (by decide +kernel) ?_
                                refine fo_goS mi_k71 fz71_107_1_108 [.int l1_4, .ref 87, .int ((a50 87).getD l3_50.toNatClampNeg 0), .int l3_50, .ref 87] rfl ?_
                                refine ko_iald3 mi_k71.1 (n := 8) (c := 8) (ax := (0, 0, 0, 0, 0)) (mi_k71.2 _ _ (by rfl)) (by rfl) (ksG87 _ _ _ _) (hL50.I.2.1 87) rfl (oz3 p4_0) (oz936 c44 kn8) ?_
                                refine fo_goS mi_k71 fz71_109_3_114 [.int l1_4, .ref 80, .int ((a50 87).getD l1_4.toNatClampNeg 0), .int ((a50 87).getD l3_50.toNatClampNeg 0), .int l3_50, .ref 87] rfl ?_
                                by_cases w508 : l1_4.toInt = 0
                                ·
                                  refine ft_alx mi_k71 (pc := 114) (v := 0) (p := 80) (z := 81) (kj_eq w508 (by decide) : l1_4 = 0) (by decide +kernel) (by decide +kernel) ?_
                                  refine fo_goS mi_k71 fz71_115_1_116 [.int l3_50, .ref 81, .int ((a50 87).getD l1_4.toNatClampNeg 0), .int ((a50 87).getD l3_50.toNatClampNeg 0), .int l3_50, .ref 87] rfl ?_
                                  refine ko_iald3 mi_k71.1 (n := 8) (c := 8) (ax := (0, 0, 0, 0, 0)) (mi_k71.2 _ _ (by rfl)) (by rfl) (ksG81 _ _ _ _) (hL50.I.2.1 81) rfl (oz3 p50_2) (oz936 c54 kn8) ?_
                                  have b509 : ((-2147483648 : Int) ≤ ((a50 87).getD l1_4.toNatClampNeg 0).toInt) ∧ (((a50 87).getD l1_4.toNatClampNeg 0).toInt ≤ 2147483647) := kd_bd ((a50 87).getD l1_4.toNatClampNeg 0)
                                  have b510 : ((-2147483648 : Int) ≤ ((a50 81).getD l3_50.toNatClampNeg 0).toInt) ∧ (((a50 81).getD l3_50.toNatClampNeg 0).toInt ≤ 2147483647) := kd_bd ((a50 81).getD l3_50.toNatClampNeg 0)
                                  refine fo_goS mi_k71 fz71_117_1_118 [.int (((a50 87).getD l1_4.toNatClampNeg 0) + ((a50 81).getD l3_50.toNatClampNeg 0)), .int ((a50 87).getD l3_50.toNatClampNeg 0), .int l3_50, .ref 87] rfl ?_
                                  have m512 : (((bif decide ((((a50 87).getD l1_4.toNatClampNeg 0) + ((a50 81).getD l3_50.toNatClampNeg 0)) < ((a50 87).getD l3_50.toNatClampNeg 0)) then (((a50 87).getD l1_4.toNatClampNeg 0) + ((a50 81).getD l3_50.toNatClampNeg 0)) else ((a50 87).getD l3_50.toNatClampNeg 0)).toInt ≤ ((a50 87).getD l3_50.toNatClampNeg 0).toInt) ∧ ((bif decide ((((a50 87).getD l1_4.toNatClampNeg 0) + ((a50 81).getD l3_50.toNatClampNeg 0)) < ((a50 87).getD l3_50.toNatClampNeg 0)) then (((a50 87).getD l1_4.toNatClampNeg 0) + ((a50 81).getD l3_50.toNatClampNeg 0)) else ((a50 87).getD l3_50.toNatClampNeg 0)).toInt ≤ (((a50 87).getD l1_4.toNatClampNeg 0) + ((a50 81).getD l3_50.toNatClampNeg 0)).toInt)) ∧ ((bif decide ((((a50 87).getD l1_4.toNatClampNeg 0) + ((a50 81).getD l3_50.toNatClampNeg 0)) < ((a50 87).getD l3_50.toNatClampNeg 0)) then (((a50 87).getD l1_4.toNatClampNeg 0) + ((a50 81).getD l3_50.toNatClampNeg 0)) else ((a50 87).getD l3_50.toNatClampNeg 0)).toInt = ((a50 87).getD l3_50.toNatClampNeg 0).toInt ∨ (bif decide ((((a50 87).getD l1_4.toNatClampNeg 0) + ((a50 81).getD l3_50.toNatClampNeg 0)) < ((a50 87).getD l3_50.toNatClampNeg 0)) then (((a50 87).getD l1_4.toNatClampNeg 0) + ((a50 81).getD l3_50.toNatClampNeg 0)) else ((a50 87).getD l3_50.toNatClampNeg 0)).toInt = (((a50 87).getD l1_4.toNatClampNeg 0) + ((a50 81).getD l3_50.toNatClampNeg 0)).toInt) := kd_min
                                  first | refine ft_goS mi_k71 1 121 [.int (bif decide ((((a50 87).getD l1_4.toNatClampNeg 0) + ((a50 81).getD l3_50.toNatClampNeg 0)) < ((a50 87).getD l3_50.toNatClampNeg 0)) then (((a50 87).getD l1_4.toNatClampNeg 0) + ((a50 81).getD l3_50.toNatClampNeg 0)) else ((a50 87).getD l3_50.toNatClampNeg 0)), .int l3_50, .ref 87] (by rfl) ?_ | refine ft_go mi_k71 1 121 [(3, .int l3_50), (2, .int l2_45), (1, .int l1_4), (0, .ref 49)] [.int (bif decide ((((a50 87).getD l1_4.toNatClampNeg 0) + ((a50 81).getD l3_50.toNatClampNeg 0)) < ((a50 87).getD l3_50.toNatClampNeg 0)) then (((a50 87).getD l1_4.toNatClampNeg 0) + ((a50 81).getD l3_50.toNatClampNeg 0)) else ((a50 87).getD l3_50.toNatClampNeg 0)), .int l3_50, .ref 87] i50 a50 q50 r50 (by rfl) ?_ | refine ko_steps mi_in71 1 _ (121, [(3, .int l3_50), (2, .int l2_45), (1, .int l1_4), (0, .ref 49)], [.int (bif decide ((((a50 87).getD l1_4.toNatClampNeg 0) + ((a50 81).getD l3_50.toNatClampNeg 0)) < ((a50 87).getD l3_50.toNatClampNeg 0)) then (((a50 87).getD l1_4.toNatClampNeg 0) + ((a50 81).getD l3_50.toNatClampNeg 0)) else ((a50 87).getD l3_50.toNatClampNeg 0)), .int l3_50, .ref 87], (0, 0), ks i50 a50 q50 r50) (by rfl) ?_
                                  generalize (bif decide ((((a50 87).getD l1_4.toNatClampNeg 0) + ((a50 81).getD l3_50.toNatClampNeg 0)) < ((a50 87).getD l3_50.toNatClampNeg 0)) then (((a50 87).getD l1_4.toNatClampNeg 0) + ((a50 81).getD l3_50.toNatClampNeg 0)) else ((a50 87).getD l3_50.toNatClampNeg 0)) = m511 at m512 ⊢
                                  refine ko_iast3 mi_k71.1 (n := 8) (c := 8) (ax := (0, 0, 0, 0, 0)) (mi_k71.2 _ _ (by rfl)) (by rfl) (ksG87 _ _ _ _) (ksA87 _ _ _ _) (hL50.I.2.1 87) rfl (oz3 p50_2) (oz936 c54 kn8) ?_
                                  intro a513 ea513 fa513
                                  have hJ513 := kG_a3 hL50 87 rfl ea513 fa513 (kd_bd _)
                                  have s514 : (l3_50 + 1).toInt = l3_50.toInt + (1 : Int32).toInt := kd_add (oz12 p50_2 kn1) (oz474 c54 kn8 kn1)
                                  first | refine fo_goL mi_k71 fz71_78_2_80 [(3, .int (l3_50 + 1)), (2, .int l2_45), (1, .int l1_4), (0, .ref 49)] [] (by rfl) ?_ | refine fo_goL mi_k71 fz71_122_2_80 [(3, .int (l3_50 + 1)), (2, .int l2_45), (1, .int l1_4), (0, .ref 49)] [] (by rfl) ?_
                                  exact ih50 _ _ _ _ _ hJ513 (oz488 c44 p4_0 kn8) (oz1026 c49 w493 kn8) (oz14 p50_2 s514 kn1) (kj_meas (oz475 s514 kn1) (oz476 c54 kn8) hm50)
                                by_cases w515 : l1_4.toInt = 1
                                ·
                                  refine ft_alx mi_k71 (pc := 114) (v := 1) (p := 80) (z := 82) (kj_eq w515 (by decide) : l1_4 = 1) (by decide +kernel) (by decide +kernel) ?_
                                  refine fo_goS mi_k71 fz71_115_1_116 [.int l3_50, .ref 82, .int ((a50 87).getD l1_4.toNatClampNeg 0), .int ((a50 87).getD l3_50.toNatClampNeg 0), .int l3_50, .ref 87] rfl ?_
                                  refine ko_iald3 mi_k71.1 (n := 8) (c := 8) (ax := (0, 0, 0, 0, 0)) (mi_k71.2 _ _ (by rfl)) (by rfl) (ksG82 _ _ _ _) (hL50.I.2.1 82) rfl (oz3 p50_2) (oz936 c54 kn8) ?_
                                  have b516 : ((-2147483648 : Int) ≤ ((a50 87).getD l1_4.toNatClampNeg 0).toInt) ∧ (((a50 87).getD l1_4.toNatClampNeg 0).toInt ≤ 2147483647) := kd_bd ((a50 87).getD l1_4.toNatClampNeg 0)
                                  have b517 : ((-2147483648 : Int) ≤ ((a50 82).getD l3_50.toNatClampNeg 0).toInt) ∧ (((a50 82).getD l3_50.toNatClampNeg 0).toInt ≤ 2147483647) := kd_bd ((a50 82).getD l3_50.toNatClampNeg 0)
                                  refine fo_goS mi_k71 fz71_117_1_118 [.int (((a50 87).getD l1_4.toNatClampNeg 0) + ((a50 82).getD l3_50.toNatClampNeg 0)), .int ((a50 87).getD l3_50.toNatClampNeg 0), .int l3_50, .ref 87] rfl ?_
                                  have m519 : (((bif decide ((((a50 87).getD l1_4.toNatClampNeg 0) + ((a50 82).getD l3_50.toNatClampNeg 0)) < ((a50 87).getD l3_50.toNatClampNeg 0)) then (((a50 87).getD l1_4.toNatClampNeg 0) + ((a50 82).getD l3_50.toNatClampNeg 0)) else ((a50 87).getD l3_50.toNatClampNeg 0)).toInt ≤ ((a50 87).getD l3_50.toNatClampNeg 0).toInt) ∧ ((bif decide ((((a50 87).getD l1_4.toNatClampNeg 0) + ((a50 82).getD l3_50.toNatClampNeg 0)) < ((a50 87).getD l3_50.toNatClampNeg 0)) then (((a50 87).getD l1_4.toNatClampNeg 0) + ((a50 82).getD l3_50.toNatClampNeg 0)) else ((a50 87).getD l3_50.toNatClampNeg 0)).toInt ≤ (((a50 87).getD l1_4.toNatClampNeg 0) + ((a50 82).getD l3_50.toNatClampNeg 0)).toInt)) ∧ ((bif decide ((((a50 87).getD l1_4.toNatClampNeg 0) + ((a50 82).getD l3_50.toNatClampNeg 0)) < ((a50 87).getD l3_50.toNatClampNeg 0)) then (((a50 87).getD l1_4.toNatClampNeg 0) + ((a50 82).getD l3_50.toNatClampNeg 0)) else ((a50 87).getD l3_50.toNatClampNeg 0)).toInt = ((a50 87).getD l3_50.toNatClampNeg 0).toInt ∨ (bif decide ((((a50 87).getD l1_4.toNatClampNeg 0) + ((a50 82).getD l3_50.toNatClampNeg 0)) < ((a50 87).getD l3_50.toNatClampNeg 0)) then (((a50 87).getD l1_4.toNatClampNeg 0) + ((a50 82).getD l3_50.toNatClampNeg 0)) else ((a50 87).getD l3_50.toNatClampNeg 0)).toInt = (((a50 87).getD l1_4.toNatClampNeg 0) + ((a50 82).getD l3_50.toNatClampNeg 0)).toInt) := kd_min
                                  first | refine ft_goS mi_k71 1 121 [.int (bif decide ((((a50 87).getD l1_4.toNatClampNeg 0) + ((a50 82).getD l3_50.toNatClampNeg 0)) < ((a50 87).getD l3_50.toNatClampNeg 0)) then (((a50 87).getD l1_4.toNatClampNeg 0) + ((a50 82).getD l3_50.toNatClampNeg 0)) else ((a50 87).getD l3_50.toNatClampNeg 0)), .int l3_50, .ref 87] (by rfl) ?_ | refine ft_go mi_k71 1 121 [(3, .int l3_50), (2, .int l2_45), (1, .int l1_4), (0, .ref 49)] [.int (bif decide ((((a50 87).getD l1_4.toNatClampNeg 0) + ((a50 82).getD l3_50.toNatClampNeg 0)) < ((a50 87).getD l3_50.toNatClampNeg 0)) then (((a50 87).getD l1_4.toNatClampNeg 0) + ((a50 82).getD l3_50.toNatClampNeg 0)) else ((a50 87).getD l3_50.toNatClampNeg 0)), .int l3_50, .ref 87] i50 a50 q50 r50 (by rfl) ?_ | refine ko_steps mi_in71 1 _ (121, [(3, .int l3_50), (2, .int l2_45), (1, .int l1_4), (0, .ref 49)], [.int (bif decide ((((a50 87).getD l1_4.toNatClampNeg 0) + ((a50 82).getD l3_50.toNatClampNeg 0)) < ((a50 87).getD l3_50.toNatClampNeg 0)) then (((a50 87).getD l1_4.toNatClampNeg 0) + ((a50 82).getD l3_50.toNatClampNeg 0)) else ((a50 87).getD l3_50.toNatClampNeg 0)), .int l3_50, .ref 87], (0, 0), ks i50 a50 q50 r50) (by rfl) ?_
                                  generalize (bif decide ((((a50 87).getD l1_4.toNatClampNeg 0) + ((a50 82).getD l3_50.toNatClampNeg 0)) < ((a50 87).getD l3_50.toNatClampNeg 0)) then (((a50 87).getD l1_4.toNatClampNeg 0) + ((a50 82).getD l3_50.toNatClampNeg 0)) else ((a50 87).getD l3_50.toNatClampNeg 0)) = m518 at m519 ⊢
                                  refine ko_iast3 mi_k71.1 (n := 8) (c := 8) (ax := (0, 0, 0, 0, 0)) (mi_k71.2 _ _ (by rfl)) (by rfl) (ksG87 _ _ _ _) (ksA87 _ _ _ _) (hL50.I.2.1 87) rfl (oz3 p50_2) (oz936 c54 kn8) ?_
                                  intro a520 ea520 fa520
                                  have hJ520 := kG_a3 hL50 87 rfl ea520 fa520 (kd_bd _)
                                  have s521 : (l3_50 + 1).toInt = l3_50.toInt + (1 : Int32).toInt := kd_add (oz12 p50_2 kn1) (oz474 c54 kn8 kn1)
                                  first | refine fo_goL mi_k71 fz71_78_2_80 [(3, .int (l3_50 + 1)), (2, .int l2_45), (1, .int l1_4), (0, .ref 49)] [] (by rfl) ?_ | refine fo_goL mi_k71 fz71_122_2_80 [(3, .int (l3_50 + 1)), (2, .int l2_45), (1, .int l1_4), (0, .ref 49)] [] (by rfl) ?_
                                  exact ih50 _ _ _ _ _ hJ520 (oz1021 c44 w515 kn8) (oz1026 c49 w493 kn8) (oz14 p50_2 s521 kn1) (kj_meas (oz475 s521 kn1) (oz476 c54 kn8) hm50)
                                by_cases w522 : l1_4.toInt = 2
                                ·
                                  refine ft_alx mi_k71 (pc := 114) (v := 2) (p := 80) (z := 83) (kj_eq w522 (by decide) : l1_4 = 2) (by decide +kernel) (by decide +kernel) ?_
                                  refine fo_goS mi_k71 fz71_115_1_116 [.int l3_50, .ref 83, .int ((a50 87).getD l1_4.toNatClampNeg 0), .int ((a50 87).getD l3_50.toNatClampNeg 0), .int l3_50, .ref 87] rfl ?_
                                  refine ko_iald3 mi_k71.1 (n := 8) (c := 8) (ax := (0, 0, 0, 0, 0)) (mi_k71.2 _ _ (by rfl)) (by rfl) (ksG83 _ _ _ _) (hL50.I.2.1 83) rfl (oz3 p50_2) (oz936 c54 kn8) ?_
                                  have b523 : ((-2147483648 : Int) ≤ ((a50 87).getD l1_4.toNatClampNeg 0).toInt) ∧ (((a50 87).getD l1_4.toNatClampNeg 0).toInt ≤ 2147483647) := kd_bd ((a50 87).getD l1_4.toNatClampNeg 0)
                                  have b524 : ((-2147483648 : Int) ≤ ((a50 83).getD l3_50.toNatClampNeg 0).toInt) ∧ (((a50 83).getD l3_50.toNatClampNeg 0).toInt ≤ 2147483647) := kd_bd ((a50 83).getD l3_50.toNatClampNeg 0)
                                  refine fo_goS mi_k71 fz71_117_1_118 [.int (((a50 87).getD l1_4.toNatClampNeg 0) + ((a50 83).getD l3_50.toNatClampNeg 0)), .int ((a50 87).getD l3_50.toNatClampNeg 0), .int l3_50, .ref 87] rfl ?_
                                  have m526 : (((bif decide ((((a50 87).getD l1_4.toNatClampNeg 0) + ((a50 83).getD l3_50.toNatClampNeg 0)) < ((a50 87).getD l3_50.toNatClampNeg 0)) then (((a50 87).getD l1_4.toNatClampNeg 0) + ((a50 83).getD l3_50.toNatClampNeg 0)) else ((a50 87).getD l3_50.toNatClampNeg 0)).toInt ≤ ((a50 87).getD l3_50.toNatClampNeg 0).toInt) ∧ ((bif decide ((((a50 87).getD l1_4.toNatClampNeg 0) + ((a50 83).getD l3_50.toNatClampNeg 0)) < ((a50 87).getD l3_50.toNatClampNeg 0)) then (((a50 87).getD l1_4.toNatClampNeg 0) + ((a50 83).getD l3_50.toNatClampNeg 0)) else ((a50 87).getD l3_50.toNatClampNeg 0)).toInt ≤ (((a50 87).getD l1_4.toNatClampNeg 0) + ((a50 83).getD l3_50.toNatClampNeg 0)).toInt)) ∧ ((bif decide ((((a50 87).getD l1_4.toNatClampNeg 0) + ((a50 83).getD l3_50.toNatClampNeg 0)) < ((a50 87).getD l3_50.toNatClampNeg 0)) then (((a50 87).getD l1_4.toNatClampNeg 0) + ((a50 83).getD l3_50.toNatClampNeg 0)) else ((a50 87).getD l3_50.toNatClampNeg 0)).toInt = ((a50 87).getD l3_50.toNatClampNeg 0).toInt ∨ (bif decide ((((a50 87).getD l1_4.toNatClampNeg 0) + ((a50 83).getD l3_50.toNatClampNeg 0)) < ((a50 87).getD l3_50.toNatClampNeg 0)) then (((a50 87).getD l1_4.toNatClampNeg 0) + ((a50 83).getD l3_50.toNatClampNeg 0)) else ((a50 87).getD l3_50.toNatClampNeg 0)).toInt = (((a50 87).getD l1_4.toNatClampNeg 0) + ((a50 83).getD l3_50.toNatClampNeg 0)).toInt) := kd_min
                                  first | refine ft_goS mi_k71 1 121 [.int (bif decide ((((a50 87).getD l1_4.toNatClampNeg 0) + ((a50 83).getD l3_50.toNatClampNeg 0)) < ((a50 87).getD l3_50.toNatClampNeg 0)) then (((a50 87).getD l1_4.toNatClampNeg 0) + ((a50 83).getD l3_50.toNatClampNeg 0)) else ((a50 87).getD l3_50.toNatClampNeg 0)), .int l3_50, .ref 87] (by rfl) ?_ | refine ft_go mi_k71 1 121 [(3, .int l3_50), (2, .int l2_45), (1, .int l1_4), (0, .ref 49)] [.int (bif decide ((((a50 87).getD l1_4.toNatClampNeg 0) + ((a50 83).getD l3_50.toNatClampNeg 0)) < ((a50 87).getD l3_50.toNatClampNeg 0)) then (((a50 87).getD l1_4.toNatClampNeg 0) + ((a50 83).getD l3_50.toNatClampNeg 0)) else ((a50 87).getD l3_50.toNatClampNeg 0)), .int l3_50, .ref 87] i50 a50 q50 r50 (by rfl) ?_ | refine ko_steps mi_in71 1 _ (121, [(3, .int l3_50), (2, .int l2_45), (1, .int l1_4), (0, .ref 49)], [.int (bif decide ((((a50 87).getD l1_4.toNatClampNeg 0) + ((a50 83).getD l3_50.toNatClampNeg 0)) < ((a50 87).getD l3_50.toNatClampNeg 0)) then (((a50 87).getD l1_4.toNatClampNeg 0) + ((a50 83).getD l3_50.toNatClampNeg 0)) else ((a50 87).getD l3_50.toNatClampNeg 0)), .int l3_50, .ref 87], (0, 0), ks i50 a50 q50 r50) (by rfl) ?_
                                  generalize (bif decide ((((a50 87).getD l1_4.toNatClampNeg 0) + ((a50 83).getD l3_50.toNatClampNeg 0)) < ((a50 87).getD l3_50.toNatClampNeg 0)) then (((a50 87).getD l1_4.toNatClampNeg 0) + ((a50 83).getD l3_50.toNatClampNeg 0)) else ((a50 87).getD l3_50.toNatClampNeg 0)) = m525 at m526 ⊢
                                  refine ko_iast3 mi_k71.1 (n := 8) (c := 8) (ax := (0, 0, 0, 0, 0)) (mi_k71.2 _ _ (by rfl)) (by rfl) (ksG87 _ _ _ _) (ksA87 _ _ _ _) (hL50.I.2.1 87) rfl (oz3 p50_2) (oz936 c54 kn8) ?_
                                  intro a527 ea527 fa527
                                  have hJ527 := kG_a3 hL50 87 rfl ea527 fa527 (kd_bd _)
                                  have s528 : (l3_50 + 1).toInt = l3_50.toInt + (1 : Int32).toInt := kd_add (oz12 p50_2 kn1) (oz474 c54 kn8 kn1)
                                  first | refine fo_goL mi_k71 fz71_78_2_80 [(3, .int (l3_50 + 1)), (2, .int l2_45), (1, .int l1_4), (0, .ref 49)] [] (by rfl) ?_ | refine fo_goL mi_k71 fz71_122_2_80 [(3, .int (l3_50 + 1)), (2, .int l2_45), (1, .int l1_4), (0, .ref 49)] [] (by rfl) ?_
                                  exact ih50 _ _ _ _ _ hJ527 (oz1022 c44 w522 kn8) (oz1026 c49 w493 kn8) (oz14 p50_2 s528 kn1) (kj_meas (oz475 s528 kn1) (oz476 c54 kn8) hm50)
                                by_cases w529 : l1_4.toInt = 3
                                ·
                                  refine ft_alx mi_k71 (pc := 114) (v := 3) (p := 80) (z := 84) (kj_eq w529 (by decide) : l1_4 = 3) (by decide +kernel) (by decide +kernel) ?_
                                  refine fo_goS mi_k71 fz71_115_1_116 [.int l3_50, .ref 84, .int ((a50 87).getD l1_4.toNatClampNeg 0), .int ((a50 87).getD l3_50.toNatClampNeg 0), .int l3_50, .ref 87] rfl ?_
                                  refine ko_iald3 mi_k71.1 (n := 8) (c := 8) (ax := (0, 0, 0, 0, 0)) (mi_k71.2 _ _ (by rfl)) (by rfl) (ksG84 _ _ _ _) (hL50.I.2.1 84) rfl (oz3 p50_2) (oz936 c54 kn8) ?_
                                  have b530 : ((-2147483648 : Int) ≤ ((a50 87).getD l1_4.toNatClampNeg 0).toInt) ∧ (((a50 87).getD l1_4.toNatClampNeg 0).toInt ≤ 2147483647) := kd_bd ((a50 87).getD l1_4.toNatClampNeg 0)
                                  have b531 : ((-2147483648 : Int) ≤ ((a50 84).getD l3_50.toNatClampNeg 0).toInt) ∧ (((a50 84).getD l3_50.toNatClampNeg 0).toInt ≤ 2147483647) := kd_bd ((a50 84).getD l3_50.toNatClampNeg 0)
                                  refine fo_goS mi_k71 fz71_117_1_118 [.int (((a50 87).getD l1_4.toNatClampNeg 0) + ((a50 84).getD l3_50.toNatClampNeg 0)), .int ((a50 87).getD l3_50.toNatClampNeg 0), .int l3_50, .ref 87] rfl ?_
                                  have m533 : (((bif decide ((((a50 87).getD l1_4.toNatClampNeg 0) + ((a50 84).getD l3_50.toNatClampNeg 0)) < ((a50 87).getD l3_50.toNatClampNeg 0)) then (((a50 87).getD l1_4.toNatClampNeg 0) + ((a50 84).getD l3_50.toNatClampNeg 0)) else ((a50 87).getD l3_50.toNatClampNeg 0)).toInt ≤ ((a50 87).getD l3_50.toNatClampNeg 0).toInt) ∧ ((bif decide ((((a50 87).getD l1_4.toNatClampNeg 0) + ((a50 84).getD l3_50.toNatClampNeg 0)) < ((a50 87).getD l3_50.toNatClampNeg 0)) then (((a50 87).getD l1_4.toNatClampNeg 0) + ((a50 84).getD l3_50.toNatClampNeg 0)) else ((a50 87).getD l3_50.toNatClampNeg 0)).toInt ≤ (((a50 87).getD l1_4.toNatClampNeg 0) + ((a50 84).getD l3_50.toNatClampNeg 0)).toInt)) ∧ ((bif decide ((((a50 87).getD l1_4.toNatClampNeg 0) + ((a50 84).getD l3_50.toNatClampNeg 0)) < ((a50 87).getD l3_50.toNatClampNeg 0)) then (((a50 87).getD l1_4.toNatClampNeg 0) + ((a50 84).getD l3_50.toNatClampNeg 0)) else ((a50 87).getD l3_50.toNatClampNeg 0)).toInt = ((a50 87).getD l3_50.toNatClampNeg 0).toInt ∨ (bif decide ((((a50 87).getD l1_4.toNatClampNeg 0) + ((a50 84).getD l3_50.toNatClampNeg 0)) < ((a50 87).getD l3_50.toNatClampNeg 0)) then (((a50 87).getD l1_4.toNatClampNeg 0) + ((a50 84).getD l3_50.toNatClampNeg 0)) else ((a50 87).getD l3_50.toNatClampNeg 0)).toInt = (((a50 87).getD l1_4.toNatClampNeg 0) + ((a50 84).getD l3_50.toNatClampNeg 0)).toInt) := kd_min
                                  first | refine ft_goS mi_k71 1 121 [.int (bif decide ((((a50 87).getD l1_4.toNatClampNeg 0) + ((a50 84).getD l3_50.toNatClampNeg 0)) < ((a50 87).getD l3_50.toNatClampNeg 0)) then (((a50 87).getD l1_4.toNatClampNeg 0) + ((a50 84).getD l3_50.toNatClampNeg 0)) else ((a50 87).getD l3_50.toNatClampNeg 0)), .int l3_50, .ref 87] (by rfl) ?_ | refine ft_go mi_k71 1 121 [(3, .int l3_50), (2, .int l2_45), (1, .int l1_4), (0, .ref 49)] [.int (bif decide ((((a50 87).getD l1_4.toNatClampNeg 0) + ((a50 84).getD l3_50.toNatClampNeg 0)) < ((a50 87).getD l3_50.toNatClampNeg 0)) then (((a50 87).getD l1_4.toNatClampNeg 0) + ((a50 84).getD l3_50.toNatClampNeg 0)) else ((a50 87).getD l3_50.toNatClampNeg 0)), .int l3_50, .ref 87] i50 a50 q50 r50 (by rfl) ?_ | refine ko_steps mi_in71 1 _ (121, [(3, .int l3_50), (2, .int l2_45), (1, .int l1_4), (0, .ref 49)], [.int (bif decide ((((a50 87).getD l1_4.toNatClampNeg 0) + ((a50 84).getD l3_50.toNatClampNeg 0)) < ((a50 87).getD l3_50.toNatClampNeg 0)) then (((a50 87).getD l1_4.toNatClampNeg 0) + ((a50 84).getD l3_50.toNatClampNeg 0)) else ((a50 87).getD l3_50.toNatClampNeg 0)), .int l3_50, .ref 87], (0, 0), ks i50 a50 q50 r50) (by rfl) ?_
                                  generalize (bif decide ((((a50 87).getD l1_4.toNatClampNeg 0) + ((a50 84).getD l3_50.toNatClampNeg 0)) < ((a50 87).getD l3_50.toNatClampNeg 0)) then (((a50 87).getD l1_4.toNatClampNeg 0) + ((a50 84).getD l3_50.toNatClampNeg 0)) else ((a50 87).getD l3_50.toNatClampNeg 0)) = m532 at m533 ⊢
                                  refine ko_iast3 mi_k71.1 (n := 8) (c := 8) (ax := (0, 0, 0, 0, 0)) (mi_k71.2 _ _ (by rfl)) (by rfl) (ksG87 _ _ _ _) (ksA87 _ _ _ _) (hL50.I.2.1 87) rfl (oz3 p50_2) (oz936 c54 kn8) ?_
                                  intro a534 ea534 fa534
                                  have hJ534 := kG_a3 hL50 87 rfl ea534 fa534 (kd_bd _)
                                  have s535 : (l3_50 + 1).toInt = l3_50.toInt + (1 : Int32).toInt := kd_add (oz12 p50_2 kn1) (oz474 c54 kn8 kn1)
                                  first | refine fo_goL mi_k71 fz71_78_2_80 [(3, .int (l3_50 + 1)), (2, .int l2_45), (1, .int l1_4), (0, .ref 49)] [] (by rfl) ?_ | refine fo_goL mi_k71 fz71_122_2_80 [(3, .int (l3_50 + 1)), (2, .int l2_45), (1, .int l1_4), (0, .ref 49)] [] (by rfl) ?_
                                  exact ih50 _ _ _ _ _ hJ534 (oz1023 c44 w529 kn8) (oz1026 c49 w493 kn8) (oz14 p50_2 s535 kn1) (kj_meas (oz475 s535 kn1) (oz476 c54 kn8) hm50)
                                by_cases w536 : l1_4.toInt = 4
                                ·
                                  refine ft_alx mi_k71 (pc := 114) (v := 4) (p := 80) (z := 85) (kj_eq w536 (by decide) : l1_4 = 4) (by decide +kernel) (by decide +kernel) ?_
                                  refine fo_goS mi_k71 fz71_115_1_116 [.int l3_50, .ref 85, .int ((a50 87).getD l1_4.toNatClampNeg 0), .int ((a50 87).getD l3_50.toNatClampNeg 0), .int l3_50, .ref 87] rfl ?_
                                  refine ko_iald3 mi_k71.1 (n := 8) (c := 8) (ax := (0, 0, 0, 0, 0)) (mi_k71.2 _ _ (by rfl)) (by rfl) (ksG85 _ _ _ _) (hL50.I.2.1 85) rfl (oz3 p50_2) (oz936 c54 kn8) ?_
                                  have b537 : ((-2147483648 : Int) ≤ ((a50 87).getD l1_4.toNatClampNeg 0).toInt) ∧ (((a50 87).getD l1_4.toNatClampNeg 0).toInt ≤ 2147483647) := kd_bd ((a50 87).getD l1_4.toNatClampNeg 0)
                                  have b538 : ((-2147483648 : Int) ≤ ((a50 85).getD l3_50.toNatClampNeg 0).toInt) ∧ (((a50 85).getD l3_50.toNatClampNeg 0).toInt ≤ 2147483647) := kd_bd ((a50 85).getD l3_50.toNatClampNeg 0)
                                  refine fo_goS mi_k71 fz71_117_1_118 [.int (((a50 87).getD l1_4.toNatClampNeg 0) + ((a50 85).getD l3_50.toNatClampNeg 0)), .int ((a50 87).getD l3_50.toNatClampNeg 0), .int l3_50, .ref 87] rfl ?_
                                  have m540 : (((bif decide ((((a50 87).getD l1_4.toNatClampNeg 0) + ((a50 85).getD l3_50.toNatClampNeg 0)) < ((a50 87).getD l3_50.toNatClampNeg 0)) then (((a50 87).getD l1_4.toNatClampNeg 0) + ((a50 85).getD l3_50.toNatClampNeg 0)) else ((a50 87).getD l3_50.toNatClampNeg 0)).toInt ≤ ((a50 87).getD l3_50.toNatClampNeg 0).toInt) ∧ ((bif decide ((((a50 87).getD l1_4.toNatClampNeg 0) + ((a50 85).getD l3_50.toNatClampNeg 0)) < ((a50 87).getD l3_50.toNatClampNeg 0)) then (((a50 87).getD l1_4.toNatClampNeg 0) + ((a50 85).getD l3_50.toNatClampNeg 0)) else ((a50 87).getD l3_50.toNatClampNeg 0)).toInt ≤ (((a50 87).getD l1_4.toNatClampNeg 0) + ((a50 85).getD l3_50.toNatClampNeg 0)).toInt)) ∧ ((bif decide ((((a50 87).getD l1_4.toNatClampNeg 0) + ((a50 85).getD l3_50.toNatClampNeg 0)) < ((a50 87).getD l3_50.toNatClampNeg 0)) then (((a50 87).getD l1_4.toNatClampNeg 0) + ((a50 85).getD l3_50.toNatClampNeg 0)) else ((a50 87).getD l3_50.toNatClampNeg 0)).toInt = ((a50 87).getD l3_50.toNatClampNeg 0).toInt ∨ (bif decide ((((a50 87).getD l1_4.toNatClampNeg 0) + ((a50 85).getD l3_50.toNatClampNeg 0)) < ((a50 87).getD l3_50.toNatClampNeg 0)) then (((a50 87).getD l1_4.toNatClampNeg 0) + ((a50 85).getD l3_50.toNatClampNeg 0)) else ((a50 87).getD l3_50.toNatClampNeg 0)).toInt = (((a50 87).getD l1_4.toNatClampNeg 0) + ((a50 85).getD l3_50.toNatClampNeg 0)).toInt) := kd_min
                                  first | refine ft_goS mi_k71 1 121 [.int (bif decide ((((a50 87).getD l1_4.toNatClampNeg 0) + ((a50 85).getD l3_50.toNatClampNeg 0)) < ((a50 87).getD l3_50.toNatClampNeg 0)) then (((a50 87).getD l1_4.toNatClampNeg 0) + ((a50 85).getD l3_50.toNatClampNeg 0)) else ((a50 87).getD l3_50.toNatClampNeg 0)), .int l3_50, .ref 87] (by rfl) ?_ | refine ft_go mi_k71 1 121 [(3, .int l3_50), (2, .int l2_45), (1, .int l1_4), (0, .ref 49)] [.int (bif decide ((((a50 87).getD l1_4.toNatClampNeg 0) + ((a50 85).getD l3_50.toNatClampNeg 0)) < ((a50 87).getD l3_50.toNatClampNeg 0)) then (((a50 87).getD l1_4.toNatClampNeg 0) + ((a50 85).getD l3_50.toNatClampNeg 0)) else ((a50 87).getD l3_50.toNatClampNeg 0)), .int l3_50, .ref 87] i50 a50 q50 r50 (by rfl) ?_ | refine ko_steps mi_in71 1 _ (121, [(3, .int l3_50), (2, .int l2_45), (1, .int l1_4), (0, .ref 49)], [.int (bif decide ((((a50 87).getD l1_4.toNatClampNeg 0) + ((a50 85).getD l3_50.toNatClampNeg 0)) < ((a50 87).getD l3_50.toNatClampNeg 0)) then (((a50 87).getD l1_4.toNatClampNeg 0) + ((a50 85).getD l3_50.toNatClampNeg 0)) else ((a50 87).getD l3_50.toNatClampNeg 0)), .int l3_50, .ref 87], (0, 0), ks i50 a50 q50 r50) (by rfl) ?_
                                  generalize (bif decide ((((a50 87).getD l1_4.toNatClampNeg 0) + ((a50 85).getD l3_50.toNatClampNeg 0)) < ((a50 87).getD l3_50.toNatClampNeg 0)) then (((a50 87).getD l1_4.toNatClampNeg 0) + ((a50 85).getD l3_50.toNatClampNeg 0)) else ((a50 87).getD l3_50.toNatClampNeg 0)) = m539 at m540 ⊢
                                  refine ko_iast3 mi_k71.1 (n := 8) (c := 8) (ax := (0, 0, 0, 0, 0)) (mi_k71.2 _ _ (by rfl)) (by rfl) (ksG87 _ _ _ _) (ksA87 _ _ _ _) (hL50.I.2.1 87) rfl (oz3 p50_2) (oz936 c54 kn8) ?_
                                  intro a541 ea541 fa541
                                  have hJ541 := kG_a3 hL50 87 rfl ea541 fa541 (kd_bd _)
                                  have s542 : (l3_50 + 1).toInt = l3_50.toInt + (1 : Int32).toInt := kd_add (oz12 p50_2 kn1) (oz474 c54 kn8 kn1)
                                  first | refine fo_goL mi_k71 fz71_78_2_80 [(3, .int (l3_50 + 1)), (2, .int l2_45), (1, .int l1_4), (0, .ref 49)] [] (by rfl) ?_ | refine fo_goL mi_k71 fz71_122_2_80 [(3, .int (l3_50 + 1)), (2, .int l2_45), (1, .int l1_4), (0, .ref 49)] [] (by rfl) ?_
                                  exact ih50 _ _ _ _ _ hJ541 (oz1024 c44 w536 kn8) (oz1026 c49 w493 kn8) (oz14 p50_2 s542 kn1) (kj_meas (oz475 s542 kn1) (oz476 c54 kn8) hm50)
                                by_cases w543 : l1_4.toInt = 5
                                ·
                                  refine ft_alx mi_k71 (pc := 114) (v := 5) (p := 80) (z := 86) (kj_eq w543 (by decide) : l1_4 = 5) (by decide +kernel) (by decide +kernel) ?_
                                  refine fo_goS mi_k71 fz71_115_1_116 [.int l3_50, .ref 86, .int ((a50 87).getD l1_4.toNatClampNeg 0), .int ((a50 87).getD l3_50.toNatClampNeg 0), .int l3_50, .ref 87] rfl ?_
                                  refine ko_iald3 mi_k71.1 (n := 8) (c := 8) (ax := (0, 0, 0, 0, 0)) (mi_k71.2 _ _ (by rfl)) (by rfl) (ksG86 _ _ _ _) (hL50.I.2.1 86) rfl (oz3 p50_2) (oz936 c54 kn8) ?_
                                  have b544 : ((-2147483648 : Int) ≤ ((a50 87).getD l1_4.toNatClampNeg 0).toInt) ∧ (((a50 87).getD l1_4.toNatClampNeg 0).toInt ≤ 2147483647) := kd_bd ((a50 87).getD l1_4.toNatClampNeg 0)
                                  have b545 : ((-2147483648 : Int) ≤ ((a50 86).getD l3_50.toNatClampNeg 0).toInt) ∧ (((a50 86).getD l3_50.toNatClampNeg 0).toInt ≤ 2147483647) := kd_bd ((a50 86).getD l3_50.toNatClampNeg 0)
                                  refine fo_goS mi_k71 fz71_117_1_118 [.int (((a50 87).getD l1_4.toNatClampNeg 0) + ((a50 86).getD l3_50.toNatClampNeg 0)), .int ((a50 87).getD l3_50.toNatClampNeg 0), .int l3_50, .ref 87] rfl ?_
                                  have m547 : (((bif decide ((((a50 87).getD l1_4.toNatClampNeg 0) + ((a50 86).getD l3_50.toNatClampNeg 0)) < ((a50 87).getD l3_50.toNatClampNeg 0)) then (((a50 87).getD l1_4.toNatClampNeg 0) + ((a50 86).getD l3_50.toNatClampNeg 0)) else ((a50 87).getD l3_50.toNatClampNeg 0)).toInt ≤ ((a50 87).getD l3_50.toNatClampNeg 0).toInt) ∧ ((bif decide ((((a50 87).getD l1_4.toNatClampNeg 0) + ((a50 86).getD l3_50.toNatClampNeg 0)) < ((a50 87).getD l3_50.toNatClampNeg 0)) then (((a50 87).getD l1_4.toNatClampNeg 0) + ((a50 86).getD l3_50.toNatClampNeg 0)) else ((a50 87).getD l3_50.toNatClampNeg 0)).toInt ≤ (((a50 87).getD l1_4.toNatClampNeg 0) + ((a50 86).getD l3_50.toNatClampNeg 0)).toInt)) ∧ ((bif decide ((((a50 87).getD l1_4.toNatClampNeg 0) + ((a50 86).getD l3_50.toNatClampNeg 0)) < ((a50 87).getD l3_50.toNatClampNeg 0)) then (((a50 87).getD l1_4.toNatClampNeg 0) + ((a50 86).getD l3_50.toNatClampNeg 0)) else ((a50 87).getD l3_50.toNatClampNeg 0)).toInt = ((a50 87).getD l3_50.toNatClampNeg 0).toInt ∨ (bif decide ((((a50 87).getD l1_4.toNatClampNeg 0) + ((a50 86).getD l3_50.toNatClampNeg 0)) < ((a50 87).getD l3_50.toNatClampNeg 0)) then (((a50 87).getD l1_4.toNatClampNeg 0) + ((a50 86).getD l3_50.toNatClampNeg 0)) else ((a50 87).getD l3_50.toNatClampNeg 0)).toInt = (((a50 87).getD l1_4.toNatClampNeg 0) + ((a50 86).getD l3_50.toNatClampNeg 0)).toInt) := kd_min
                                  first | refine ft_goS mi_k71 1 121 [.int (bif decide ((((a50 87).getD l1_4.toNatClampNeg 0) + ((a50 86).getD l3_50.toNatClampNeg 0)) < ((a50 87).getD l3_50.toNatClampNeg 0)) then (((a50 87).getD l1_4.toNatClampNeg 0) + ((a50 86).getD l3_50.toNatClampNeg 0)) else ((a50 87).getD l3_50.toNatClampNeg 0)), .int l3_50, .ref 87] (by rfl) ?_ | refine ft_go mi_k71 1 121 [(3, .int l3_50), (2, .int l2_45), (1, .int l1_4), (0, .ref 49)] [.int (bif decide ((((a50 87).getD l1_4.toNatClampNeg 0) + ((a50 86).getD l3_50.toNatClampNeg 0)) < ((a50 87).getD l3_50.toNatClampNeg 0)) then (((a50 87).getD l1_4.toNatClampNeg 0) + ((a50 86).getD l3_50.toNatClampNeg 0)) else ((a50 87).getD l3_50.toNatClampNeg 0)), .int l3_50, .ref 87] i50 a50 q50 r50 (by rfl) ?_ | refine ko_steps mi_in71 1 _ (121, [(3, .int l3_50), (2, .int l2_45), (1, .int l1_4), (0, .ref 49)], [.int (bif decide ((((a50 87).getD l1_4.toNatClampNeg 0) + ((a50 86).getD l3_50.toNatClampNeg 0)) < ((a50 87).getD l3_50.toNatClampNeg 0)) then (((a50 87).getD l1_4.toNatClampNeg 0) + ((a50 86).getD l3_50.toNatClampNeg 0)) else ((a50 87).getD l3_50.toNatClampNeg 0)), .int l3_50, .ref 87], (0, 0), ks i50 a50 q50 r50) (by rfl) ?_
                                  generalize (bif decide ((((a50 87).getD l1_4.toNatClampNeg 0) + ((a50 86).getD l3_50.toNatClampNeg 0)) < ((a50 87).getD l3_50.toNatClampNeg 0)) then (((a50 87).getD l1_4.toNatClampNeg 0) + ((a50 86).getD l3_50.toNatClampNeg 0)) else ((a50 87).getD l3_50.toNatClampNeg 0)) = m546 at m547 ⊢
                                  refine ko_iast3 mi_k71.1 (n := 8) (c := 8) (ax := (0, 0, 0, 0, 0)) (mi_k71.2 _ _ (by rfl)) (by rfl) (ksG87 _ _ _ _) (ksA87 _ _ _ _) (hL50.I.2.1 87) rfl (oz3 p50_2) (oz936 c54 kn8) ?_
                                  intro a548 ea548 fa548
                                  have hJ548 := kG_a3 hL50 87 rfl ea548 fa548 (kd_bd _)
                                  have s549 : (l3_50 + 1).toInt = l3_50.toInt + (1 : Int32).toInt := kd_add (oz12 p50_2 kn1) (oz474 c54 kn8 kn1)
                                  first | refine fo_goL mi_k71 fz71_78_2_80 [(3, .int (l3_50 + 1)), (2, .int l2_45), (1, .int l1_4), (0, .ref 49)] [] (by rfl) ?_ | refine fo_goL mi_k71 fz71_122_2_80 [(3, .int (l3_50 + 1)), (2, .int l2_45), (1, .int l1_4), (0, .ref 49)] [] (by rfl) ?_
                                  exact ih50 _ _ _ _ _ hJ548 (oz1025 c44 w543 kn8) (oz1026 c49 w493 kn8) (oz14 p50_2 s549 kn1) (kj_meas (oz475 s549 kn1) (oz476 c54 kn8) hm50)
                                by_cases w550 : l1_4.toInt = 6
                                ·
                                  refine ft_alx mi_k71 (pc := 114) (v := 6) (p := 80) (z := 87) (kj_eq w550 (by decide) : l1_4 = 6) (by decide +kernel) (by decide +kernel) ?_
                                  refine fo_goS mi_k71 fz71_115_1_116 [.int l3_50, .ref 87, .int ((a50 87).getD l1_4.toNatClampNeg 0), .int ((a50 87).getD l3_50.toNatClampNeg 0), .int l3_50, .ref 87] rfl ?_
                                  refine ko_iald3 mi_k71.1 (n := 8) (c := 8) (ax := (0, 0, 0, 0, 0)) (mi_k71.2 _ _ (by rfl)) (by rfl) (ksG87 _ _ _ _) (hL50.I.2.1 87) rfl (oz3 p50_2) (oz936 c54 kn8) ?_
                                  have b551 : ((-2147483648 : Int) ≤ ((a50 87).getD l1_4.toNatClampNeg 0).toInt) ∧ (((a50 87).getD l1_4.toNatClampNeg 0).toInt ≤ 2147483647) := kd_bd ((a50 87).getD l1_4.toNatClampNeg 0)
                                  have b552 : ((-2147483648 : Int) ≤ ((a50 87).getD l3_50.toNatClampNeg 0).toInt) ∧ (((a50 87).getD l3_50.toNatClampNeg 0).toInt ≤ 2147483647) := kd_bd ((a50 87).getD l3_50.toNatClampNeg 0)
                                  refine fo_goS mi_k71 fz71_117_1_118 [.int (((a50 87).getD l1_4.toNatClampNeg 0) + ((a50 87).getD l3_50.toNatClampNeg 0)), .int ((a50 87).getD l3_50.toNatClampNeg 0), .int l3_50, .ref 87] rfl ?_
                                  have m554 : (((bif decide ((((a50 87).getD l1_4.toNatClampNeg 0) + ((a50 87).getD l3_50.toNatClampNeg 0)) < ((a50 87).getD l3_50.toNatClampNeg 0)) then (((a50 87).getD l1_4.toNatClampNeg 0) + ((a50 87).getD l3_50.toNatClampNeg 0)) else ((a50 87).getD l3_50.toNatClampNeg 0)).toInt ≤ ((a50 87).getD l3_50.toNatClampNeg 0).toInt) ∧ ((bif decide ((((a50 87).getD l1_4.toNatClampNeg 0) + ((a50 87).getD l3_50.toNatClampNeg 0)) < ((a50 87).getD l3_50.toNatClampNeg 0)) then (((a50 87).getD l1_4.toNatClampNeg 0) + ((a50 87).getD l3_50.toNatClampNeg 0)) else ((a50 87).getD l3_50.toNatClampNeg 0)).toInt ≤ (((a50 87).getD l1_4.toNatClampNeg 0) + ((a50 87).getD l3_50.toNatClampNeg 0)).toInt)) ∧ ((bif decide ((((a50 87).getD l1_4.toNatClampNeg 0) + ((a50 87).getD l3_50.toNatClampNeg 0)) < ((a50 87).getD l3_50.toNatClampNeg 0)) then (((a50 87).getD l1_4.toNatClampNeg 0) + ((a50 87).getD l3_50.toNatClampNeg 0)) else ((a50 87).getD l3_50.toNatClampNeg 0)).toInt = ((a50 87).getD l3_50.toNatClampNeg 0).toInt ∨ (bif decide ((((a50 87).getD l1_4.toNatClampNeg 0) + ((a50 87).getD l3_50.toNatClampNeg 0)) < ((a50 87).getD l3_50.toNatClampNeg 0)) then (((a50 87).getD l1_4.toNatClampNeg 0) + ((a50 87).getD l3_50.toNatClampNeg 0)) else ((a50 87).getD l3_50.toNatClampNeg 0)).toInt = (((a50 87).getD l1_4.toNatClampNeg 0) + ((a50 87).getD l3_50.toNatClampNeg 0)).toInt) := kd_min
                                  first | refine ft_goS mi_k71 1 121 [.int (bif decide ((((a50 87).getD l1_4.toNatClampNeg 0) + ((a50 87).getD l3_50.toNatClampNeg 0)) < ((a50 87).getD l3_50.toNatClampNeg 0)) then (((a50 87).getD l1_4.toNatClampNeg 0) + ((a50 87).getD l3_50.toNatClampNeg 0)) else ((a50 87).getD l3_50.toNatClampNeg 0)), .int l3_50, .ref 87] (by rfl) ?_ | refine ft_go mi_k71 1 121 [(3, .int l3_50), (2, .int l2_45), (1, .int l1_4), (0, .ref 49)] [.int (bif decide ((((a50 87).getD l1_4.toNatClampNeg 0) + ((a50 87).getD l3_50.toNatClampNeg 0)) < ((a50 87).getD l3_50.toNatClampNeg 0)) then (((a50 87).getD l1_4.toNatClampNeg 0) + ((a50 87).getD l3_50.toNatClampNeg 0)) else ((a50 87).getD l3_50.toNatClampNeg 0)), .int l3_50, .ref 87] i50 a50 q50 r50 (by rfl) ?_ | refine ko_steps mi_in71 1 _ (121, [(3, .int l3_50), (2, .int l2_45), (1, .int l1_4), (0, .ref 49)], [.int (bif decide ((((a50 87).getD l1_4.toNatClampNeg 0) + ((a50 87).getD l3_50.toNatClampNeg 0)) < ((a50 87).getD l3_50.toNatClampNeg 0)) then (((a50 87).getD l1_4.toNatClampNeg 0) + ((a50 87).getD l3_50.toNatClampNeg 0)) else ((a50 87).getD l3_50.toNatClampNeg 0)), .int l3_50, .ref 87], (0, 0), ks i50 a50 q50 r50) (by rfl) ?_
                                  generalize (bif decide ((((a50 87).getD l1_4.toNatClampNeg 0) + ((a50 87).getD l3_50.toNatClampNeg 0)) < ((a50 87).getD l3_50.toNatClampNeg 0)) then (((a50 87).getD l1_4.toNatClampNeg 0) + ((a50 87).getD l3_50.toNatClampNeg 0)) else ((a50 87).getD l3_50.toNatClampNeg 0)) = m553 at m554 ⊢
                                  refine ko_iast3 mi_k71.1 (n := 8) (c := 8) (ax := (0, 0, 0, 0, 0)) (mi_k71.2 _ _ (by rfl)) (by rfl) (ksG87 _ _ _ _) (ksA87 _ _ _ _) (hL50.I.2.1 87) rfl (oz3 p50_2) (oz936 c54 kn8) ?_
                                  intro a555 ea555 fa555
                                  have hJ555 := kG_a3 hL50 87 rfl ea555 fa555 (kd_bd _)
                                  have s556 : (l3_50 + 1).toInt = l3_50.toInt + (1 : Int32).toInt := kd_add (oz12 p50_2 kn1) (oz474 c54 kn8 kn1)
                                  first | refine fo_goL mi_k71 fz71_78_2_80 [(3, .int (l3_50 + 1)), (2, .int l2_45), (1, .int l1_4), (0, .ref 49)] [] (by rfl) ?_ | refine fo_goL mi_k71 fz71_122_2_80 [(3, .int (l3_50 + 1)), (2, .int l2_45), (1, .int l1_4), (0, .ref 49)] [] (by rfl) ?_
                                  exact ih50 _ _ _ _ _ hJ555 (oz1026 c44 w550 kn8) (oz1026 c49 w493 kn8) (oz14 p50_2 s556 kn1) (kj_meas (oz475 s556 kn1) (oz476 c54 kn8) hm50)
                                by_cases w557 : l1_4.toInt = 7
                                ·
                                  refine ft_alx mi_k71 (pc := 114) (v := 7) (p := 80) (z := 88) (kj_eq w557 (by decide) : l1_4 = 7) (by decide +kernel) (by decide +kernel) ?_
                                  refine fo_goS mi_k71 fz71_115_1_116 [.int l3_50, .ref 88, .int ((a50 87).getD l1_4.toNatClampNeg 0), .int ((a50 87).getD l3_50.toNatClampNeg 0), .int l3_50, .ref 87] rfl ?_
                                  refine ko_iald3 mi_k71.1 (n := 8) (c := 8) (ax := (0, 0, 0, 0, 0)) (mi_k71.2 _ _ (by rfl)) (by rfl) (ksG88 _ _ _ _) (hL50.I.2.1 88) rfl (oz3 p50_2) (oz936 c54 kn8) ?_
                                  have b558 : ((-2147483648 : Int) ≤ ((a50 87).getD l1_4.toNatClampNeg 0).toInt) ∧ (((a50 87).getD l1_4.toNatClampNeg 0).toInt ≤ 2147483647) := kd_bd ((a50 87).getD l1_4.toNatClampNeg 0)
                                  have b559 : ((-2147483648 : Int) ≤ ((a50 88).getD l3_50.toNatClampNeg 0).toInt) ∧ (((a50 88).getD l3_50.toNatClampNeg 0).toInt ≤ 2147483647) := kd_bd ((a50 88).getD l3_50.toNatClampNeg 0)
                                  refine fo_goS mi_k71 fz71_117_1_118 [.int (((a50 87).getD l1_4.toNatClampNeg 0) + ((a50 88).getD l3_50.toNatClampNeg 0)), .int ((a50 87).getD l3_50.toNatClampNeg 0), .int l3_50, .ref 87] rfl ?_
                                  have m561 : (((bif decide ((((a50 87).getD l1_4.toNatClampNeg 0) + ((a50 88).getD l3_50.toNatClampNeg 0)) < ((a50 87).getD l3_50.toNatClampNeg 0)) then (((a50 87).getD l1_4.toNatClampNeg 0) + ((a50 88).getD l3_50.toNatClampNeg 0)) else ((a50 87).getD l3_50.toNatClampNeg 0)).toInt ≤ ((a50 87).getD l3_50.toNatClampNeg 0).toInt) ∧ ((bif decide ((((a50 87).getD l1_4.toNatClampNeg 0) + ((a50 88).getD l3_50.toNatClampNeg 0)) < ((a50 87).getD l3_50.toNatClampNeg 0)) then (((a50 87).getD l1_4.toNatClampNeg 0) + ((a50 88).getD l3_50.toNatClampNeg 0)) else ((a50 87).getD l3_50.toNatClampNeg 0)).toInt ≤ (((a50 87).getD l1_4.toNatClampNeg 0) + ((a50 88).getD l3_50.toNatClampNeg 0)).toInt)) ∧ ((bif decide ((((a50 87).getD l1_4.toNatClampNeg 0) + ((a50 88).getD l3_50.toNatClampNeg 0)) < ((a50 87).getD l3_50.toNatClampNeg 0)) then (((a50 87).getD l1_4.toNatClampNeg 0) + ((a50 88).getD l3_50.toNatClampNeg 0)) else ((a50 87).getD l3_50.toNatClampNeg 0)).toInt = ((a50 87).getD l3_50.toNatClampNeg 0).toInt ∨ (bif decide ((((a50 87).getD l1_4.toNatClampNeg 0) + ((a50 88).getD l3_50.toNatClampNeg 0)) < ((a50 87).getD l3_50.toNatClampNeg 0)) then (((a50 87).getD l1_4.toNatClampNeg 0) + ((a50 88).getD l3_50.toNatClampNeg 0)) else ((a50 87).getD l3_50.toNatClampNeg 0)).toInt = (((a50 87).getD l1_4.toNatClampNeg 0) + ((a50 88).getD l3_50.toNatClampNeg 0)).toInt) := kd_min
                                  first | refine ft_goS mi_k71 1 121 [.int (bif decide ((((a50 87).getD l1_4.toNatClampNeg 0) + ((a50 88).getD l3_50.toNatClampNeg 0)) < ((a50 87).getD l3_50.toNatClampNeg 0)) then (((a50 87).getD l1_4.toNatClampNeg 0) + ((a50 88).getD l3_50.toNatClampNeg 0)) else ((a50 87).getD l3_50.toNatClampNeg 0)), .int l3_50, .ref 87] (by rfl) ?_ | refine ft_go mi_k71 1 121 [(3, .int l3_50), (2, .int l2_45), (1, .int l1_4), (0, .ref 49)] [.int (bif decide ((((a50 87).getD l1_4.toNatClampNeg 0) + ((a50 88).getD l3_50.toNatClampNeg 0)) < ((a50 87).getD l3_50.toNatClampNeg 0)) then (((a50 87).getD l1_4.toNatClampNeg 0) + ((a50 88).getD l3_50.toNatClampNeg 0)) else ((a50 87).getD l3_50.toNatClampNeg 0)), .int l3_50, .ref 87] i50 a50 q50 r50 (by rfl) ?_ | refine ko_steps mi_in71 1 _ (121, [(3, .int l3_50), (2, .int l2_45), (1, .int l1_4), (0, .ref 49)], [.int (bif decide ((((a50 87).getD l1_4.toNatClampNeg 0) + ((a50 88).getD l3_50.toNatClampNeg 0)) < ((a50 87).getD l3_50.toNatClampNeg 0)) then (((a50 87).getD l1_4.toNatClampNeg 0) + ((a50 88).getD l3_50.toNatClampNeg 0)) else ((a50 87).getD l3_50.toNatClampNeg 0)), .int l3_50, .ref 87], (0, 0), ks i50 a50 q50 r50) (by rfl) ?_
                                  generalize (bif decide ((((a50 87).getD l1_4.toNatClampNeg 0) + ((a50 88).getD l3_50.toNatClampNeg 0)) < ((a50 87).getD l3_50.toNatClampNeg 0)) then (((a50 87).getD l1_4.toNatClampNeg 0) + ((a50 88).getD l3_50.toNatClampNeg 0)) else ((a50 87).getD l3_50.toNatClampNeg 0)) = m560 at m561 ⊢
                                  refine ko_iast3 mi_k71.1 (n := 8) (c := 8) (ax := (0, 0, 0, 0, 0)) (mi_k71.2 _ _ (by rfl)) (by rfl) (ksG87 _ _ _ _) (ksA87 _ _ _ _) (hL50.I.2.1 87) rfl (oz3 p50_2) (oz936 c54 kn8) ?_
                                  intro a562 ea562 fa562
                                  have hJ562 := kG_a3 hL50 87 rfl ea562 fa562 (kd_bd _)
                                  have s563 : (l3_50 + 1).toInt = l3_50.toInt + (1 : Int32).toInt := kd_add (oz12 p50_2 kn1) (oz474 c54 kn8 kn1)
                                  first | refine fo_goL mi_k71 fz71_78_2_80 [(3, .int (l3_50 + 1)), (2, .int l2_45), (1, .int l1_4), (0, .ref 49)] [] (by rfl) ?_ | refine fo_goL mi_k71 fz71_122_2_80 [(3, .int (l3_50 + 1)), (2, .int l2_45), (1, .int l1_4), (0, .ref 49)] [] (by rfl) ?_
                                  exact ih50 _ _ _ _ _ hJ562 (oz1027 c44 w557 kn8) (oz1026 c49 w493 kn8) (oz14 p50_2 s563 kn1) (kj_meas (oz475 s563 kn1) (oz476 c54 kn8) hm50)
                                exact (oz1028 c44 p4_0 w508 w515 w522 w529 w536 w543 w550 w557 kn8).elim
                              exact (oz1145_m w493 w507).elim
                            exact (oz1145_m w493 w500).elim
                          by_cases w566 : l2_45.toInt = 7
                          ·
                            refine ft_alx mi_k71 (pc := 91) (v := 7) (p := 80) (z := 88) (kj_eq w566 (by decide) : l2_45 = 7) (by decide +kernel) (by decide +kernel) ?_
                            refine fo_goS mi_k71 fz71_92_4_98 [.int l2_45, .ref 80, .int l3_50, .ref 88] rfl ?_
                            by_cases w574 : l2_45.toInt = 7
                            ·
                              refine ft_alx mi_k71 (pc := 98) (v := 7) (p := 80) (z := 88) (kj_eq w574 (by decide) : l2_45 = 7) (by decide +kernel) (by decide +kernel) ?_
                              refine fo_goS mi_k71 fz71_99_1_100 [.int l3_50, .ref 88, .int l3_50, .ref 88] rfl ?_
                              refine ko_iald3 mi_k71.1 (n := 8) (c := 8) (ax := (0, 0, 0, 0, 0)) (mi_k71.2 _ _ (by rfl)) (by rfl) (ksG88 _ _ _ _) (hL50.I.2.1 88) rfl (oz3 p50_2) (oz936 c54 kn8) ?_
                              refine fo_goS mi_k71 fz71_101_3_106 [.int l2_45, .ref 80, .int ((a50 88).getD l3_50.toNatClampNeg 0), .int l3_50, .ref 88] rfl ?_
                              by_cases w582 : l2_45.toInt = 7
                              ·
                                refine ft_alx mi_k71 (pc := 106) (v := 7) (p := 80) (z := 88) (kj_eq w582 (by decide) : l2_45 = 7) (by decide +kernel) (by decide +kernel) ?_
                                refine fo_goS mi_k71 fz71_107_1_108 [.int l1_4, .ref 88, .int ((a50 88).getD l3_50.toNatClampNeg 0), .int l3_50, .ref 88] rfl ?_
                                refine ko_iald3 mi_k71.1 (n := 8) (c := 8) (ax := (0, 0, 0, 0, 0)) (mi_k71.2 _ _ (by rfl)) (by rfl) (ksG88 _ _ _ _) (hL50.I.2.1 88) rfl (oz3 p4_0) (oz936 c44 kn8) ?_
                                refine fo_goS mi_k71 fz71_109_3_114 [.int l1_4, .ref 80, .int ((a50 88).getD l1_4.toNatClampNeg 0), .int ((a50 88).getD l3_50.toNatClampNeg 0), .int l3_50, .ref 88] rfl ?_
                                by_cases w583 : l1_4.toInt = 0
                                ·
                                  refine ft_alx mi_k71 (pc := 114) (v := 0) (p := 80) (z := 81) (kj_eq w583 (by decide) : l1_4 = 0) (by decide +kernel) (by decide +kernel) ?_
                                  refine fo_goS mi_k71 fz71_115_1_116 [.int l3_50, .ref 81, .int ((a50 88).getD l1_4.toNatClampNeg 0), .int ((a50 88).getD l3_50.toNatClampNeg 0), .int l3_50, .ref 88] rfl ?_
                                  refine ko_iald3 mi_k71.1 (n := 8) (c := 8) (ax := (0, 0, 0, 0, 0)) (mi_k71.2 _ _ (by rfl)) (by rfl) (ksG81 _ _ _ _) (hL50.I.2.1 81) rfl (oz3 p50_2) (oz936 c54 kn8) ?_
                                  have b584 : ((-2147483648 : Int) ≤ ((a50 88).getD l1_4.toNatClampNeg 0).toInt) ∧ (((a50 88).getD l1_4.toNatClampNeg 0).toInt ≤ 2147483647) := kd_bd ((a50 88).getD l1_4.toNatClampNeg 0)
                                  have b585 : ((-2147483648 : Int) ≤ ((a50 81).getD l3_50.toNatClampNeg 0).toInt) ∧ (((a50 81).getD l3_50.toNatClampNeg 0).toInt ≤ 2147483647) := kd_bd ((a50 81).getD l3_50.toNatClampNeg 0)
                                  refine fo_goS mi_k71 fz71_117_1_118 [.int (((a50 88).getD l1_4.toNatClampNeg 0) + ((a50 81).getD l3_50.toNatClampNeg 0)), .int ((a50 88).getD l3_50.toNatClampNeg 0), .int l3_50, .ref 88] rfl ?_
                                  have m587 : (((bif decide ((((a50 88).getD l1_4.toNatClampNeg 0) + ((a50 81).getD l3_50.toNatClampNeg 0)) < ((a50 88).getD l3_50.toNatClampNeg 0)) then (((a50 88).getD l1_4.toNatClampNeg 0) + ((a50 81).getD l3_50.toNatClampNeg 0)) else ((a50 88).getD l3_50.toNatClampNeg 0)).toInt ≤ ((a50 88).getD l3_50.toNatClampNeg 0).toInt) ∧ ((bif decide ((((a50 88).getD l1_4.toNatClampNeg 0) + ((a50 81).getD l3_50.toNatClampNeg 0)) < ((a50 88).getD l3_50.toNatClampNeg 0)) then (((a50 88).getD l1_4.toNatClampNeg 0) + ((a50 81).getD l3_50.toNatClampNeg 0)) else ((a50 88).getD l3_50.toNatClampNeg 0)).toInt ≤ (((a50 88).getD l1_4.toNatClampNeg 0) + ((a50 81).getD l3_50.toNatClampNeg 0)).toInt)) ∧ ((bif decide ((((a50 88).getD l1_4.toNatClampNeg 0) + ((a50 81).getD l3_50.toNatClampNeg 0)) < ((a50 88).getD l3_50.toNatClampNeg 0)) then (((a50 88).getD l1_4.toNatClampNeg 0) + ((a50 81).getD l3_50.toNatClampNeg 0)) else ((a50 88).getD l3_50.toNatClampNeg 0)).toInt = ((a50 88).getD l3_50.toNatClampNeg 0).toInt ∨ (bif decide ((((a50 88).getD l1_4.toNatClampNeg 0) + ((a50 81).getD l3_50.toNatClampNeg 0)) < ((a50 88).getD l3_50.toNatClampNeg 0)) then (((a50 88).getD l1_4.toNatClampNeg 0) + ((a50 81).getD l3_50.toNatClampNeg 0)) else ((a50 88).getD l3_50.toNatClampNeg 0)).toInt = (((a50 88).getD l1_4.toNatClampNeg 0) + ((a50 81).getD l3_50.toNatClampNeg 0)).toInt) := kd_min
                                  first | refine ft_goS mi_k71 1 121 [.int (bif decide ((((a50 88).getD l1_4.toNatClampNeg 0) + ((a50 81).getD l3_50.toNatClampNeg 0)) < ((a50 88).getD l3_50.toNatClampNeg 0)) then (((a50 88).getD l1_4.toNatClampNeg 0) + ((a50 81).getD l3_50.toNatClampNeg 0)) else ((a50 88).getD l3_50.toNatClampNeg 0)), .int l3_50, .ref 88] (by rfl) ?_ | refine ft_go mi_k71 1 121 [(3, .int l3_50), (2, .int l2_45), (1, .int l1_4), (0, .ref 49)] [.int (bif decide ((((a50 88).getD l1_4.toNatClampNeg 0) + ((a50 81).getD l3_50.toNatClampNeg 0)) < ((a50 88).getD l3_50.toNatClampNeg 0)) then (((a50 88).getD l1_4.toNatClampNeg 0) + ((a50 81).getD l3_50.toNatClampNeg 0)) else ((a50 88).getD l3_50.toNatClampNeg 0)), .int l3_50, .ref 88] i50 a50 q50 r50 (by rfl) ?_ | refine ko_steps mi_in71 1 _ (121, [(3, .int l3_50), (2, .int l2_45), (1, .int l1_4), (0, .ref 49)], [.int (bif decide ((((a50 88).getD l1_4.toNatClampNeg 0) + ((a50 81).getD l3_50.toNatClampNeg 0)) < ((a50 88).getD l3_50.toNatClampNeg 0)) then (((a50 88).getD l1_4.toNatClampNeg 0) + ((a50 81).getD l3_50.toNatClampNeg 0)) else ((a50 88).getD l3_50.toNatClampNeg 0)), .int l3_50, .ref 88], (0, 0), ks i50 a50 q50 r50) (by rfl) ?_
                                  generalize (bif decide ((((a50 88).getD l1_4.toNatClampNeg 0) + ((a50 81).getD l3_50.toNatClampNeg 0)) < ((a50 88).getD l3_50.toNatClampNeg 0)) then (((a50 88).getD l1_4.toNatClampNeg 0) + ((a50 81).getD l3_50.toNatClampNeg 0)) else ((a50 88).getD l3_50.toNatClampNeg 0)) = m586 at m587 ⊢
                                  refine ko_iast3 mi_k71.1 (n := 8) (c := 8) (ax := (0, 0, 0, 0, 0)) (mi_k71.2 _ _ (by rfl)) (by rfl) (ksG88 _ _ _ _) (ksA88 _ _ _ _) (hL50.I.2.1 88) rfl (oz3 p50_2) (oz936 c54 kn8) ?_
                                  intro a588 ea588 fa588
                                  have hJ588 := kG_a3 hL50 88 rfl ea588 fa588 (kd_bd _)
                                  have s589 : (l3_50 + 1).toInt = l3_50.toInt + (1 : Int32).toInt := kd_add (oz12 p50_2 kn1) (oz474 c54 kn8 kn1)
                                  first | refine fo_goL mi_k71 fz71_78_2_80 [(3, .int (l3_50 + 1)), (2, .int l2_45), (1, .int l1_4), (0, .ref 49)] [] (by rfl) ?_ | refine fo_goL mi_k71 fz71_122_2_80 [(3, .int (l3_50 + 1)), (2, .int l2_45), (1, .int l1_4), (0, .ref 49)] [] (by rfl) ?_
                                  exact ih50 _ _ _ _ _ hJ588 (oz488 c44 p4_0 kn8) (oz1027 c49 w566 kn8) (oz14 p50_2 s589 kn1) (kj_meas (oz475 s589 kn1) (oz476 c54 kn8) hm50)
                                by_cases w590 : l1_4.toInt = 1
                                ·
                                  refine ft_alx mi_k71 (pc := 114) (v := 1) (p := 80) (z := 82) (kj_eq w590 (by decide) : l1_4 = 1) (by decide +kernel) (by decide +kernel) ?_
                                  refine fo_goS mi_k71 fz71_115_1_116 [.int l3_50, .ref 82, .int ((a50 88).getD l1_4.toNatClampNeg 0), .int ((a50 88).getD l3_50.toNatClampNeg 0), .int l3_50, .ref 88] rfl ?_
                                  refine ko_iald3 mi_k71.1 (n := 8) (c := 8) (ax := (0, 0, 0, 0, 0)) (mi_k71.2 _ _ (by rfl)) (by rfl) (ksG82 _ _ _ _) (hL50.I.2.1 82) rfl (oz3 p50_2) (oz936 c54 kn8) ?_
                                  have b591 : ((-2147483648 : Int) ≤ ((a50 88).getD l1_4.toNatClampNeg 0).toInt) ∧ (((a50 88).getD l1_4.toNatClampNeg 0).toInt ≤ 2147483647) := kd_bd ((a50 88).getD l1_4.toNatClampNeg 0)
                                  have b592 : ((-2147483648 : Int) ≤ ((a50 82).getD l3_50.toNatClampNeg 0).toInt) ∧ (((a50 82).getD l3_50.toNatClampNeg 0).toInt ≤ 2147483647) := kd_bd ((a50 82).getD l3_50.toNatClampNeg 0)
                                  refine fo_goS mi_k71 fz71_117_1_118 [.int (((a50 88).getD l1_4.toNatClampNeg 0) + ((a50 82).getD l3_50.toNatClampNeg 0)), .int ((a50 88).getD l3_50.toNatClampNeg 0), .int l3_50, .ref 88] rfl ?_
                                  have m594 : (((bif decide ((((a50 88).getD l1_4.toNatClampNeg 0) + ((a50 82).getD l3_50.toNatClampNeg 0)) < ((a50 88).getD l3_50.toNatClampNeg 0)) then (((a50 88).getD l1_4.toNatClampNeg 0) + ((a50 82).getD l3_50.toNatClampNeg 0)) else ((a50 88).getD l3_50.toNatClampNeg 0)).toInt ≤ ((a50 88).getD l3_50.toNatClampNeg 0).toInt) ∧ ((bif decide ((((a50 88).getD l1_4.toNatClampNeg 0) + ((a50 82).getD l3_50.toNatClampNeg 0)) < ((a50 88).getD l3_50.toNatClampNeg 0)) then (((a50 88).getD l1_4.toNatClampNeg 0) + ((a50 82).getD l3_50.toNatClampNeg 0)) else ((a50 88).getD l3_50.toNatClampNeg 0)).toInt ≤ (((a50 88).getD l1_4.toNatClampNeg 0) + ((a50 82).getD l3_50.toNatClampNeg 0)).toInt)) ∧ ((bif decide ((((a50 88).getD l1_4.toNatClampNeg 0) + ((a50 82).getD l3_50.toNatClampNeg 0)) < ((a50 88).getD l3_50.toNatClampNeg 0)) then (((a50 88).getD l1_4.toNatClampNeg 0) + ((a50 82).getD l3_50.toNatClampNeg 0)) else ((a50 88).getD l3_50.toNatClampNeg 0)).toInt = ((a50 88).getD l3_50.toNatClampNeg 0).toInt ∨ (bif decide ((((a50 88).getD l1_4.toNatClampNeg 0) + ((a50 82).getD l3_50.toNatClampNeg 0)) < ((a50 88).getD l3_50.toNatClampNeg 0)) then (((a50 88).getD l1_4.toNatClampNeg 0) + ((a50 82).getD l3_50.toNatClampNeg 0)) else ((a50 88).getD l3_50.toNatClampNeg 0)).toInt = (((a50 88).getD l1_4.toNatClampNeg 0) + ((a50 82).getD l3_50.toNatClampNeg 0)).toInt) := kd_min
                                  first | refine ft_goS mi_k71 1 121 [.int (bif decide ((((a50 88).getD l1_4.toNatClampNeg 0) + ((a50 82).getD l3_50.toNatClampNeg 0)) < ((a50 88).getD l3_50.toNatClampNeg 0)) then (((a50 88).getD l1_4.toNatClampNeg 0) + ((a50 82).getD l3_50.toNatClampNeg 0)) else ((a50 88).getD l3_50.toNatClampNeg 0)), .int l3_50, .ref 88] (by rfl) ?_ | refine ft_go mi_k71 1 121 [(3, .int l3_50), (2, .int l2_45), (1, .int l1_4), (0, .ref 49)] [.int (bif decide ((((a50 88).getD l1_4.toNatClampNeg 0) + ((a50 82).getD l3_50.toNatClampNeg 0)) < ((a50 88).getD l3_50.toNatClampNeg 0)) then (((a50 88).getD l1_4.toNatClampNeg 0) + ((a50 82).getD l3_50.toNatClampNeg 0)) else ((a50 88).getD l3_50.toNatClampNeg 0)), .int l3_50, .ref 88] i50 a50 q50 r50 (by rfl) ?_ | refine ko_steps mi_in71 1 _ (121, [(3, .int l3_50), (2, .int l2_45), (1, .int l1_4), (0, .ref 49)], [.int (bif decide ((((a50 88).getD l1_4.toNatClampNeg 0) + ((a50 82).getD l3_50.toNatClampNeg 0)) < ((a50 88).getD l3_50.toNatClampNeg 0)) then (((a50 88).getD l1_4.toNatClampNeg 0) + ((a50 82).getD l3_50.toNatClampNeg 0)) else ((a50 88).getD l3_50.toNatClampNeg 0)), .int l3_50, .ref 88], (0, 0), ks i50 a50 q50 r50) (by rfl) ?_
                                  generalize (bif decide ((((a50 88).getD l1_4.toNatClampNeg 0) + ((a50 82).getD l3_50.toNatClampNeg 0)) < ((a50 88).getD l3_50.toNatClampNeg 0)) then (((a50 88).getD l1_4.toNatClampNeg 0) + ((a50 82).getD l3_50.toNatClampNeg 0)) else ((a50 88).getD l3_50.toNatClampNeg 0)) = m593 at m594 ⊢
                                  refine ko_iast3 mi_k71.1 (n := 8) (c := 8) (ax := (0, 0, 0, 0, 0)) (mi_k71.2 _ _ (by rfl)) (by rfl) (ksG88 _ _ _ _) (ksA88 _ _ _ _) (hL50.I.2.1 88) rfl (oz3 p50_2) (oz936 c54 kn8) ?_
                                  intro a595 ea595 fa595
                                  have hJ595 := kG_a3 hL50 88 rfl ea595 fa595 (kd_bd _)
                                  have s596 : (l3_50 + 1).toInt = l3_50.toInt + (1 : Int32).toInt := kd_add (oz12 p50_2 kn1) (oz474 c54 kn8 kn1)
                                  first | refine fo_goL mi_k71 fz71_78_2_80 [(3, .int (l3_50 + 1)), (2, .int l2_45), (1, .int l1_4), (0, .ref 49)] [] (by rfl) ?_ | refine fo_goL mi_k71 fz71_122_2_80 [(3, .int (l3_50 + 1)), (2, .int l2_45), (1, .int l1_4), (0, .ref 49)] [] (by rfl) ?_
                                  exact ih50 _ _ _ _ _ hJ595 (oz1021 c44 w590 kn8) (oz1027 c49 w566 kn8) (oz14 p50_2 s596 kn1) (kj_meas (oz475 s596 kn1) (oz476 c54 kn8) hm50)
                                by_cases w597 : l1_4.toInt = 2
                                ·
                                  refine ft_alx mi_k71 (pc := 114) (v := 2) (p := 80) (z := 83) (kj_eq w597 (by decide) : l1_4 = 2) (by decide +kernel) (by decide +kernel) ?_
                                  refine fo_goS mi_k71 fz71_115_1_116 [.int l3_50, .ref 83, .int ((a50 88).getD l1_4.toNatClampNeg 0), .int ((a50 88).getD l3_50.toNatClampNeg 0), .int l3_50, .ref 88] rfl ?_
                                  refine ko_iald3 mi_k71.1 (n := 8) (c := 8) (ax := (0, 0, 0, 0, 0)) (mi_k71.2 _ _ (by rfl)) (by rfl) (ksG83 _ _ _ _) (hL50.I.2.1 83) rfl (oz3 p50_2) (oz936 c54 kn8) ?_
                                  have b598 : ((-2147483648 : Int) ≤ ((a50 88).getD l1_4.toNatClampNeg 0).toInt) ∧ (((a50 88).getD l1_4.toNatClampNeg 0).toInt ≤ 2147483647) := kd_bd ((a50 88).getD l1_4.toNatClampNeg 0)
                                  have b599 : ((-2147483648 : Int) ≤ ((a50 83).getD l3_50.toNatClampNeg 0).toInt) ∧ (((a50 83).getD l3_50.toNatClampNeg 0).toInt ≤ 2147483647) := kd_bd ((a50 83).getD l3_50.toNatClampNeg 0)
                                  refine fo_goS mi_k71 fz71_117_1_118 [.int (((a50 88).getD l1_4.toNatClampNeg 0) + ((a50 83).getD l3_50.toNatClampNeg 0)), .int ((a50 88).getD l3_50.toNatClampNeg 0), .int l3_50, .ref 88] rfl ?_
                                  have m601 : (((bif decide ((((a50 88).getD l1_4.toNatClampNeg 0) + ((a50 83).getD l3_50.toNatClampNeg 0)) < ((a50 88).getD l3_50.toNatClampNeg 0)) then (((a50 88).getD l1_4.toNatClampNeg 0) + ((a50 83).getD l3_50.toNatClampNeg 0)) else ((a50 88).getD l3_50.toNatClampNeg 0)).toInt ≤ ((a50 88).getD l3_50.toNatClampNeg 0).toInt) ∧ ((bif decide ((((a50 88).getD l1_4.toNatClampNeg 0) + ((a50 83).getD l3_50.toNatClampNeg 0)) < ((a50 88).getD l3_50.toNatClampNeg 0)) then (((a50 88).getD l1_4.toNatClampNeg 0) + ((a50 83).getD l3_50.toNatClampNeg 0)) else ((a50 88).getD l3_50.toNatClampNeg 0)).toInt ≤ (((a50 88).getD l1_4.toNatClampNeg 0) + ((a50 83).getD l3_50.toNatClampNeg 0)).toInt)) ∧ ((bif decide ((((a50 88).getD l1_4.toNatClampNeg 0) + ((a50 83).getD l3_50.toNatClampNeg 0)) < ((a50 88).getD l3_50.toNatClampNeg 0)) then (((a50 88).getD l1_4.toNatClampNeg 0) + ((a50 83).getD l3_50.toNatClampNeg 0)) else ((a50 88).getD l3_50.toNatClampNeg 0)).toInt = ((a50 88).getD l3_50.toNatClampNeg 0).toInt ∨ (bif decide ((((a50 88).getD l1_4.toNatClampNeg 0) + ((a50 83).getD l3_50.toNatClampNeg 0)) < ((a50 88).getD l3_50.toNatClampNeg 0)) then (((a50 88).getD l1_4.toNatClampNeg 0) + ((a50 83).getD l3_50.toNatClampNeg 0)) else ((a50 88).getD l3_50.toNatClampNeg 0)).toInt = (((a50 88).getD l1_4.toNatClampNeg 0) + ((a50 83).getD l3_50.toNatClampNeg 0)).toInt) := kd_min
                                  first | refine ft_goS mi_k71 1 121 [.int (bif decide ((((a50 88).getD l1_4.toNatClampNeg 0) + ((a50 83).getD l3_50.toNatClampNeg 0)) < ((a50 88).getD l3_50.toNatClampNeg 0)) then (((a50 88).getD l1_4.toNatClampNeg 0) + ((a50 83).getD l3_50.toNatClampNeg 0)) else ((a50 88).getD l3_50.toNatClampNeg 0)), .int l3_50, .ref 88] (by rfl) ?_ | refine ft_go mi_k71 1 121 [(3, .int l3_50), (2, .int l2_45), (1, .int l1_4), (0, .ref 49)] [.int (bif decide ((((a50 88).getD l1_4.toNatClampNeg 0) + ((a50 83).getD l3_50.toNatClampNeg 0)) < ((a50 88).getD l3_50.toNatClampNeg 0)) then (((a50 88).getD l1_4.toNatClampNeg 0) + ((a50 83).getD l3_50.toNatClampNeg 0)) else ((a50 88).getD l3_50.toNatClampNeg 0)), .int l3_50, .ref 88] i50 a50 q50 r50 (by rfl) ?_ | refine ko_steps mi_in71 1 _ (121, [(3, .int l3_50), (2, .int l2_45), (1, .int l1_4), (0, .ref 49)], [.int (bif decide ((((a50 88).getD l1_4.toNatClampNeg 0) + ((a50 83).getD l3_50.toNatClampNeg 0)) < ((a50 88).getD l3_50.toNatClampNeg 0)) then (((a50 88).getD l1_4.toNatClampNeg 0) + ((a50 83).getD l3_50.toNatClampNeg 0)) else ((a50 88).getD l3_50.toNatClampNeg 0)), .int l3_50, .ref 88], (0, 0), ks i50 a50 q50 r50) (by rfl) ?_
                                  generalize (bif decide ((((a50 88).getD l1_4.toNatClampNeg 0) + ((a50 83).getD l3_50.toNatClampNeg 0)) < ((a50 88).getD l3_50.toNatClampNeg 0)) then (((a50 88).getD l1_4.toNatClampNeg 0) + ((a50 83).getD l3_50.toNatClampNeg 0)) else ((a50 88).getD l3_50.toNatClampNeg 0)) = m600 at m601 ⊢
                                  refine ko_iast3 mi_k71.1 (n := 8) (c := 8) (ax := (0, 0, 0, 0, 0)) (mi_k71.2 _ _ (by rfl)) (by rfl) (ksG88 _ _ _ _) (ksA88 _ _ _ _) (hL50.I.2.1 88) rfl (oz3 p50_2) (oz936 c54 kn8) ?_
                                  intro a602 ea602 fa602
                                  have hJ602 := kG_a3 hL50 88 rfl ea602 fa602 (kd_bd _)
                                  have s603 : (l3_50 + 1).toInt = l3_50.toInt + (1 : Int32).toInt := kd_add (oz12 p50_2 kn1) (oz474 c54 kn8 kn1)
                                  first | refine fo_goL mi_k71 fz71_78_2_80 [(3, .int (l3_50 + 1)), (2, .int l2_45), (1, .int l1_4), (0, .ref 49)] [] (by rfl) ?_ | refine fo_goL mi_k71 fz71_122_2_80 [(3, .int (l3_50 + 1)), (2, .int l2_45), (1, .int l1_4), (0, .ref 49)] [] (by rfl) ?_
                                  exact ih50 _ _ _ _ _ hJ602 (oz1022 c44 w597 kn8) (oz1027 c49 w566 kn8) (oz14 p50_2 s603 kn1) (kj_meas (oz475 s603 kn1) (oz476 c54 kn8) hm50)
                                by_cases w604 : l1_4.toInt = 3
                                ·
                                  refine ft_alx mi_k71 (pc := 114) (v := 3) (p := 80) (z := 84) (kj_eq w604 (by decide) : l1_4 = 3) (by decide +kernel) (by decide +kernel) ?_
                                  refine fo_goS mi_k71 fz71_115_1_116 [.int l3_50, .ref 84, .int ((a50 88).getD l1_4.toNatClampNeg 0), .int ((a50 88).getD l3_50.toNatClampNeg 0), .int l3_50, .ref 88] rfl ?_
                                  refine ko_iald3 mi_k71.1 (n := 8) (c := 8) (ax := (0, 0, 0, 0, 0)) (mi_k71.2 _ _ (by rfl)) (by rfl) (ksG84 _ _ _ _) (hL50.I.2.1 84) rfl (oz3 p50_2) (oz936 c54 kn8) ?_
                                  have b605 : ((-2147483648 : Int) ≤ ((a50 88).getD l1_4.toNatClampNeg 0).toInt) ∧ (((a50 88).getD l1_4.toNatClampNeg 0).toInt ≤ 2147483647) := kd_bd ((a50 88).getD l1_4.toNatClampNeg 0)
                                  have b606 : ((-2147483648 : Int) ≤ ((a50 84).getD l3_50.toNatClampNeg 0).toInt) ∧ (((a50 84).getD l3_50.toNatClampNeg 0).toInt ≤ 2147483647) := kd_bd ((a50 84).getD l3_50.toNatClampNeg 0)
                                  refine fo_goS mi_k71 fz71_117_1_118 [.int (((a50 88).getD l1_4.toNatClampNeg 0) + ((a50 84).getD l3_50.toNatClampNeg 0)), .int ((a50 88).getD l3_50.toNatClampNeg 0), .int l3_50, .ref 88] rfl ?_
                                  have m608 : (((bif decide ((((a50 88).getD l1_4.toNatClampNeg 0) + ((a50 84).getD l3_50.toNatClampNeg 0)) < ((a50 88).getD l3_50.toNatClampNeg 0)) then (((a50 88).getD l1_4.toNatClampNeg 0) + ((a50 84).getD l3_50.toNatClampNeg 0)) else ((a50 88).getD l3_50.toNatClampNeg 0)).toInt ≤ ((a50 88).getD l3_50.toNatClampNeg 0).toInt) ∧ ((bif decide ((((a50 88).getD l1_4.toNatClampNeg 0) + ((a50 84).getD l3_50.toNatClampNeg 0)) < ((a50 88).getD l3_50.toNatClampNeg 0)) then (((a50 88).getD l1_4.toNatClampNeg 0) + ((a50 84).getD l3_50.toNatClampNeg 0)) else ((a50 88).getD l3_50.toNatClampNeg 0)).toInt ≤ (((a50 88).getD l1_4.toNatClampNeg 0) + ((a50 84).getD l3_50.toNatClampNeg 0)).toInt)) ∧ ((bif decide ((((a50 88).getD l1_4.toNatClampNeg 0) + ((a50 84).getD l3_50.toNatClampNeg 0)) < ((a50 88).getD l3_50.toNatClampNeg 0)) then (((a50 88).getD l1_4.toNatClampNeg 0) + ((a50 84).getD l3_50.toNatClampNeg 0)) else ((a50 88).getD l3_50.toNatClampNeg 0)).toInt = ((a50 88).getD l3_50.toNatClampNeg 0).toInt ∨ (bif decide ((((a50 88).getD l1_4.toNatClampNeg 0) + ((a50 84).getD l3_50.toNatClampNeg 0)) < ((a50 88).getD l3_50.toNatClampNeg 0)) then (((a50 88).getD l1_4.toNatClampNeg 0) + ((a50 84).getD l3_50.toNatClampNeg 0)) else ((a50 88).getD l3_50.toNatClampNeg 0)).toInt = (((a50 88).getD l1_4.toNatClampNeg 0) + ((a50 84).getD l3_50.toNatClampNeg 0)).toInt) := kd_min
                                  first | refine ft_goS mi_k71 1 121 [.int (bif decide ((((a50 88).getD l1_4.toNatClampNeg 0) + ((a50 84).getD l3_50.toNatClampNeg 0)) < ((a50 88).getD l3_50.toNatClampNeg 0)) then (((a50 88).getD l1_4.toNatClampNeg 0) + ((a50 84).getD l3_50.toNatClampNeg 0)) else ((a50 88).getD l3_50.toNatClampNeg 0)), .int l3_50, .ref 88] (by rfl) ?_ | refine ft_go mi_k71 1 121 [(3, .int l3_50), (2, .int l2_45), (1, .int l1_4), (0, .ref 49)] [.int (bif decide ((((a50 88).getD l1_4.toNatClampNeg 0) + ((a50 84).getD l3_50.toNatClampNeg 0)) < ((a50 88).getD l3_50.toNatClampNeg 0)) then (((a50 88).getD l1_4.toNatClampNeg 0) + ((a50 84).getD l3_50.toNatClampNeg 0)) else ((a50 88).getD l3_50.toNatClampNeg 0)), .int l3_50, .ref 88] i50 a50 q50 r50 (by rfl) ?_ | refine ko_steps mi_in71 1 _ (121, [(3, .int l3_50), (2, .int l2_45), (1, .int l1_4), (0, .ref 49)], [.int (bif decide ((((a50 88).getD l1_4.toNatClampNeg 0) + ((a50 84).getD l3_50.toNatClampNeg 0)) < ((a50 88).getD l3_50.toNatClampNeg 0)) then (((a50 88).getD l1_4.toNatClampNeg 0) + ((a50 84).getD l3_50.toNatClampNeg 0)) else ((a50 88).getD l3_50.toNatClampNeg 0)), .int l3_50, .ref 88], (0, 0), ks i50 a50 q50 r50) (by rfl) ?_
                                  generalize (bif decide ((((a50 88).getD l1_4.toNatClampNeg 0) + ((a50 84).getD l3_50.toNatClampNeg 0)) < ((a50 88).getD l3_50.toNatClampNeg 0)) then (((a50 88).getD l1_4.toNatClampNeg 0) + ((a50 84).getD l3_50.toNatClampNeg 0)) else ((a50 88).getD l3_50.toNatClampNeg 0)) = m607 at m608 ⊢
                                  refine ko_iast3 mi_k71.1 (n := 8) (c := 8) (ax := (0, 0, 0, 0, 0)) (mi_k71.2 _ _ (by rfl)) (by rfl) (ksG88 _ _ _ _) (ksA88 _ _ _ _) (hL50.I.2.1 88) rfl (oz3 p50_2) (oz936 c54 kn8) ?_
                                  intro a609 ea609 fa609
                                  have hJ609 := kG_a3 hL50 88 rfl ea609 fa609 (kd_bd _)
                                  have s610 : (l3_50 + 1).toInt = l3_50.toInt + (1 : Int32).toInt := kd_add (oz12 p50_2 kn1) (oz474 c54 kn8 kn1)
                                  first | refine fo_goL mi_k71 fz71_78_2_80 [(3, .int (l3_50 + 1)), (2, .int l2_45), (1, .int l1_4), (0, .ref 49)] [] (by rfl) ?_ | refine fo_goL mi_k71 fz71_122_2_80 [(3, .int (l3_50 + 1)), (2, .int l2_45), (1, .int l1_4), (0, .ref 49)] [] (by rfl) ?_
                                  exact ih50 _ _ _ _ _ hJ609 (oz1023 c44 w604 kn8) (oz1027 c49 w566 kn8) (oz14 p50_2 s610 kn1) (kj_meas (oz475 s610 kn1) (oz476 c54 kn8) hm50)
                                by_cases w611 : l1_4.toInt = 4
                                ·
                                  refine ft_alx mi_k71 (pc := 114) (v := 4) (p := 80) (z := 85) (kj_eq w611 (by decide) : l1_4 = 4) (by decide +kernel) (by decide +kernel) ?_
                                  refine fo_goS mi_k71 fz71_115_1_116 [.int l3_50, .ref 85, .int ((a50 88).getD l1_4.toNatClampNeg 0), .int ((a50 88).getD l3_50.toNatClampNeg 0), .int l3_50, .ref 88] rfl ?_
                                  refine ko_iald3 mi_k71.1 (n := 8) (c := 8) (ax := (0, 0, 0, 0, 0)) (mi_k71.2 _ _ (by rfl)) (by rfl) (ksG85 _ _ _ _) (hL50.I.2.1 85) rfl (oz3 p50_2) (oz936 c54 kn8) ?_
                                  have b612 : ((-2147483648 : Int) ≤ ((a50 88).getD l1_4.toNatClampNeg 0).toInt) ∧ (((a50 88).getD l1_4.toNatClampNeg 0).toInt ≤ 2147483647) := kd_bd ((a50 88).getD l1_4.toNatClampNeg 0)
                                  have b613 : ((-2147483648 : Int) ≤ ((a50 85).getD l3_50.toNatClampNeg 0).toInt) ∧ (((a50 85).getD l3_50.toNatClampNeg 0).toInt ≤ 2147483647) := kd_bd ((a50 85).getD l3_50.toNatClampNeg 0)
                                  refine fo_goS mi_k71 fz71_117_1_118 [.int (((a50 88).getD l1_4.toNatClampNeg 0) + ((a50 85).getD l3_50.toNatClampNeg 0)), .int ((a50 88).getD l3_50.toNatClampNeg 0), .int l3_50, .ref 88] rfl ?_
                                  have m615 : (((bif decide ((((a50 88).getD l1_4.toNatClampNeg 0) + ((a50 85).getD l3_50.toNatClampNeg 0)) < ((a50 88).getD l3_50.toNatClampNeg 0)) then (((a50 88).getD l1_4.toNatClampNeg 0) + ((a50 85).getD l3_50.toNatClampNeg 0)) else ((a50 88).getD l3_50.toNatClampNeg 0)).toInt ≤ ((a50 88).getD l3_50.toNatClampNeg 0).toInt) ∧ ((bif decide ((((a50 88).getD l1_4.toNatClampNeg 0) + ((a50 85).getD l3_50.toNatClampNeg 0)) < ((a50 88).getD l3_50.toNatClampNeg 0)) then (((a50 88).getD l1_4.toNatClampNeg 0) + ((a50 85).getD l3_50.toNatClampNeg 0)) else ((a50 88).getD l3_50.toNatClampNeg 0)).toInt ≤ (((a50 88).getD l1_4.toNatClampNeg 0) + ((a50 85).getD l3_50.toNatClampNeg 0)).toInt)) ∧ ((bif decide ((((a50 88).getD l1_4.toNatClampNeg 0) + ((a50 85).getD l3_50.toNatClampNeg 0)) < ((a50 88).getD l3_50.toNatClampNeg 0)) then (((a50 88).getD l1_4.toNatClampNeg 0) + ((a50 85).getD l3_50.toNatClampNeg 0)) else ((a50 88).getD l3_50.toNatClampNeg 0)).toInt = ((a50 88).getD l3_50.toNatClampNeg 0).toInt ∨ (bif decide ((((a50 88).getD l1_4.toNatClampNeg 0) + ((a50 85).getD l3_50.toNatClampNeg 0)) < ((a50 88).getD l3_50.toNatClampNeg 0)) then (((a50 88).getD l1_4.toNatClampNeg 0) + ((a50 85).getD l3_50.toNatClampNeg 0)) else ((a50 88).getD l3_50.toNatClampNeg 0)).toInt = (((a50 88).getD l1_4.toNatClampNeg 0) + ((a50 85).getD l3_50.toNatClampNeg 0)).toInt) := kd_min
                                  first | refine ft_goS mi_k71 1 121 [.int (bif decide ((((a50 88).getD l1_4.toNatClampNeg 0) + ((a50 85).getD l3_50.toNatClampNeg 0)) < ((a50 88).getD l3_50.toNatClampNeg 0)) then (((a50 88).getD l1_4.toNatClampNeg 0) + ((a50 85).getD l3_50.toNatClampNeg 0)) else ((a50 88).getD l3_50.toNatClampNeg 0)), .int l3_50, .ref 88] (by rfl) ?_ | refine ft_go mi_k71 1 121 [(3, .int l3_50), (2, .int l2_45), (1, .int l1_4), (0, .ref 49)] [.int (bif decide ((((a50 88).getD l1_4.toNatClampNeg 0) + ((a50 85).getD l3_50.toNatClampNeg 0)) < ((a50 88).getD l3_50.toNatClampNeg 0)) then (((a50 88).getD l1_4.toNatClampNeg 0) + ((a50 85).getD l3_50.toNatClampNeg 0)) else ((a50 88).getD l3_50.toNatClampNeg 0)), .int l3_50, .ref 88] i50 a50 q50 r50 (by rfl) ?_ | refine ko_steps mi_in71 1 _ (121, [(3, .int l3_50), (2, .int l2_45), (1, .int l1_4), (0, .ref 49)], [.int (bif decide ((((a50 88).getD l1_4.toNatClampNeg 0) + ((a50 85).getD l3_50.toNatClampNeg 0)) < ((a50 88).getD l3_50.toNatClampNeg 0)) then (((a50 88).getD l1_4.toNatClampNeg 0) + ((a50 85).getD l3_50.toNatClampNeg 0)) else ((a50 88).getD l3_50.toNatClampNeg 0)), .int l3_50, .ref 88], (0, 0), ks i50 a50 q50 r50) (by rfl) ?_
                                  generalize (bif decide ((((a50 88).getD l1_4.toNatClampNeg 0) + ((a50 85).getD l3_50.toNatClampNeg 0)) < ((a50 88).getD l3_50.toNatClampNeg 0)) then (((a50 88).getD l1_4.toNatClampNeg 0) + ((a50 85).getD l3_50.toNatClampNeg 0)) else ((a50 88).getD l3_50.toNatClampNeg 0)) = m614 at m615 ⊢
                                  refine ko_iast3 mi_k71.1 (n := 8) (c := 8) (ax := (0, 0, 0, 0, 0)) (mi_k71.2 _ _ (by rfl)) (by rfl) (ksG88 _ _ _ _) (ksA88 _ _ _ _) (hL50.I.2.1 88) rfl (oz3 p50_2) (oz936 c54 kn8) ?_
                                  intro a616 ea616 fa616
                                  have hJ616 := kG_a3 hL50 88 rfl ea616 fa616 (kd_bd _)
                                  have s617 : (l3_50 + 1).toInt = l3_50.toInt + (1 : Int32).toInt := kd_add (oz12 p50_2 kn1) (oz474 c54 kn8 kn1)
                                  first | refine fo_goL mi_k71 fz71_78_2_80 [(3, .int (l3_50 + 1)), (2, .int l2_45), (1, .int l1_4), (0, .ref 49)] [] (by rfl) ?_ | refine fo_goL mi_k71 fz71_122_2_80 [(3, .int (l3_50 + 1)), (2, .int l2_45), (1, .int l1_4), (0, .ref 49)] [] (by rfl) ?_
                                  exact ih50 _ _ _ _ _ hJ616 (oz1024 c44 w611 kn8) (oz1027 c49 w566 kn8) (oz14 p50_2 s617 kn1) (kj_meas (oz475 s617 kn1) (oz476 c54 kn8) hm50)
                                by_cases w618 : l1_4.toInt = 5
                                ·
                                  refine ft_alx mi_k71 (pc := 114) (v := 5) (p := 80) (z := 86) (kj_eq w618 (by decide) : l1_4 = 5) (by decide +kernel) (by decide +kernel) ?_
                                  refine fo_goS mi_k71 fz71_115_1_116 [.int l3_50, .ref 86, .int ((a50 88).getD l1_4.toNatClampNeg 0), .int ((a50 88).getD l3_50.toNatClampNeg 0), .int l3_50, .ref 88] rfl ?_
                                  refine ko_iald3 mi_k71.1 (n := 8) (c := 8) (ax := (0, 0, 0, 0, 0)) (mi_k71.2 _ _ (by rfl)) (by rfl) (ksG86 _ _ _ _) (hL50.I.2.1 86) rfl (oz3 p50_2) (oz936 c54 kn8) ?_
                                  have b619 : ((-2147483648 : Int) ≤ ((a50 88).getD l1_4.toNatClampNeg 0).toInt) ∧ (((a50 88).getD l1_4.toNatClampNeg 0).toInt ≤ 2147483647) := kd_bd ((a50 88).getD l1_4.toNatClampNeg 0)
                                  have b620 : ((-2147483648 : Int) ≤ ((a50 86).getD l3_50.toNatClampNeg 0).toInt) ∧ (((a50 86).getD l3_50.toNatClampNeg 0).toInt ≤ 2147483647) := kd_bd ((a50 86).getD l3_50.toNatClampNeg 0)
                                  refine fo_goS mi_k71 fz71_117_1_118 [.int (((a50 88).getD l1_4.toNatClampNeg 0) + ((a50 86).getD l3_50.toNatClampNeg 0)), .int ((a50 88).getD l3_50.toNatClampNeg 0), .int l3_50, .ref 88] rfl ?_
                                  have m622 : (((bif decide ((((a50 88).getD l1_4.toNatClampNeg 0) + ((a50 86).getD l3_50.toNatClampNeg 0)) < ((a50 88).getD l3_50.toNatClampNeg 0)) then (((a50 88).getD l1_4.toNatClampNeg 0) + ((a50 86).getD l3_50.toNatClampNeg 0)) else ((a50 88).getD l3_50.toNatClampNeg 0)).toInt ≤ ((a50 88).getD l3_50.toNatClampNeg 0).toInt) ∧ ((bif decide ((((a50 88).getD l1_4.toNatClampNeg 0) + ((a50 86).getD l3_50.toNatClampNeg 0)) < ((a50 88).getD l3_50.toNatClampNeg 0)) then (((a50 88).getD l1_4.toNatClampNeg 0) + ((a50 86).getD l3_50.toNatClampNeg 0)) else ((a50 88).getD l3_50.toNatClampNeg 0)).toInt ≤ (((a50 88).getD l1_4.toNatClampNeg 0) + ((a50 86).getD l3_50.toNatClampNeg 0)).toInt)) ∧ ((bif decide ((((a50 88).getD l1_4.toNatClampNeg 0) + ((a50 86).getD l3_50.toNatClampNeg 0)) < ((a50 88).getD l3_50.toNatClampNeg 0)) then (((a50 88).getD l1_4.toNatClampNeg 0) + ((a50 86).getD l3_50.toNatClampNeg 0)) else ((a50 88).getD l3_50.toNatClampNeg 0)).toInt = ((a50 88).getD l3_50.toNatClampNeg 0).toInt ∨ (bif decide ((((a50 88).getD l1_4.toNatClampNeg 0) + ((a50 86).getD l3_50.toNatClampNeg 0)) < ((a50 88).getD l3_50.toNatClampNeg 0)) then (((a50 88).getD l1_4.toNatClampNeg 0) + ((a50 86).getD l3_50.toNatClampNeg 0)) else ((a50 88).getD l3_50.toNatClampNeg 0)).toInt = (((a50 88).getD l1_4.toNatClampNeg 0) + ((a50 86).getD l3_50.toNatClampNeg 0)).toInt) := kd_min
                                  first | refine ft_goS mi_k71 1 121 [.int (bif decide ((((a50 88).getD l1_4.toNatClampNeg 0) + ((a50 86).getD l3_50.toNatClampNeg 0)) < ((a50 88).getD l3_50.toNatClampNeg 0)) then (((a50 88).getD l1_4.toNatClampNeg 0) + ((a50 86).getD l3_50.toNatClampNeg 0)) else ((a50 88).getD l3_50.toNatClampNeg 0)), .int l3_50, .ref 88] (by rfl) ?_ | refine ft_go mi_k71 1 121 [(3, .int l3_50), (2, .int l2_45), (1, .int l1_4), (0, .ref 49)] [.int (bif decide ((((a50 88).getD l1_4.toNatClampNeg 0) + ((a50 86).getD l3_50.toNatClampNeg 0)) < ((a50 88).getD l3_50.toNatClampNeg 0)) then (((a50 88).getD l1_4.toNatClampNeg 0) + ((a50 86).getD l3_50.toNatClampNeg 0)) else ((a50 88).getD l3_50.toNatClampNeg 0)), .int l3_50, .ref 88] i50 a50 q50 r50 (by rfl) ?_ | refine ko_steps mi_in71 1 _ (121, [(3, .int l3_50), (2, .int l2_45), (1, .int l1_4), (0, .ref 49)], [.int (bif decide ((((a50 88).getD l1_4.toNatClampNeg 0) + ((a50 86).getD l3_50.toNatClampNeg 0)) < ((a50 88).getD l3_50.toNatClampNeg 0)) then (((a50 88).getD l1_4.toNatClampNeg 0) + ((a50 86).getD l3_50.toNatClampNeg 0)) else ((a50 88).getD l3_50.toNatClampNeg 0)), .int l3_50, .ref 88], (0, 0), ks i50 a50 q50 r50) (by rfl) ?_
                                  generalize (bif decide ((((a50 88).getD l1_4.toNatClampNeg 0) + ((a50 86).getD l3_50.toNatClampNeg 0)) < ((a50 88).getD l3_50.toNatClampNeg 0)) then (((a50 88).getD l1_4.toNatClampNeg 0) + ((a50 86).getD l3_50.toNatClampNeg 0)) else ((a50 88).getD l3_50.toNatClampNeg 0)) = m621 at m622 ⊢
                                  refine ko_iast3 mi_k71.1 (n := 8) (c := 8) (ax := (0, 0, 0, 0, 0)) (mi_k71.2 _ _ (by rfl)) (by rfl) (ksG88 _ _ _ _) (ksA88 _ _ _ _) (hL50.I.2.1 88) rfl (oz3 p50_2) (oz936 c54 kn8) ?_
                                  intro a623 ea623 fa623
                                  have hJ623 := kG_a3 hL50 88 rfl ea623 fa623 (kd_bd _)
                                  have s624 : (l3_50 + 1).toInt = l3_50.toInt + (1 : Int32).toInt := kd_add (oz12 p50_2 kn1) (oz474 c54 kn8 kn1)
                                  first | refine fo_goL mi_k71 fz71_78_2_80 [(3, .int (l3_50 + 1)), (2, .int l2_45), (1, .int l1_4), (0, .ref 49)] [] (by rfl) ?_ | refine fo_goL mi_k71 fz71_122_2_80 [(3, .int (l3_50 + 1)), (2, .int l2_45), (1, .int l1_4), (0, .ref 49)] [] (by rfl) ?_
                                  exact ih50 _ _ _ _ _ hJ623 (oz1025 c44 w618 kn8) (oz1027 c49 w566 kn8) (oz14 p50_2 s624 kn1) (kj_meas (oz475 s624 kn1) (oz476 c54 kn8) hm50)
                                by_cases w625 : l1_4.toInt = 6
                                ·
                                  refine ft_alx mi_k71 (pc := 114) (v := 6) (p := 80) (z := 87) (kj_eq w625 (by decide) : l1_4 = 6) (by decide +kernel) (by decide +kernel) ?_
                                  refine fo_goS mi_k71 fz71_115_1_116 [.int l3_50, .ref 87, .int ((a50 88).getD l1_4.toNatClampNeg 0), .int ((a50 88).getD l3_50.toNatClampNeg 0), .int l3_50, .ref 88] rfl ?_
                                  refine ko_iald3 mi_k71.1 (n := 8) (c := 8) (ax := (0, 0, 0, 0, 0)) (mi_k71.2 _ _ (by rfl)) (by rfl) (ksG87 _ _ _ _) (hL50.I.2.1 87) rfl (oz3 p50_2) (oz936 c54 kn8) ?_
                                  have b626 : ((-2147483648 : Int) ≤ ((a50 88).getD l1_4.toNatClampNeg 0).toInt) ∧ (((a50 88).getD l1_4.toNatClampNeg 0).toInt ≤ 2147483647) := kd_bd ((a50 88).getD l1_4.toNatClampNeg 0)
                                  have b627 : ((-2147483648 : Int) ≤ ((a50 87).getD l3_50.toNatClampNeg 0).toInt) ∧ (((a50 87).getD l3_50.toNatClampNeg 0).toInt ≤ 2147483647) := kd_bd ((a50 87).getD l3_50.toNatClampNeg 0)
                                  refine fo_goS mi_k71 fz71_117_1_118 [.int (((a50 88).getD l1_4.toNatClampNeg 0) + ((a50 87).getD l3_50.toNatClampNeg 0)), .int ((a50 88).getD l3_50.toNatClampNeg 0), .int l3_50, .ref 88] rfl ?_
                                  have m629 : (((bif decide ((((a50 88).getD l1_4.toNatClampNeg 0) + ((a50 87).getD l3_50.toNatClampNeg 0)) < ((a50 88).getD l3_50.toNatClampNeg 0)) then (((a50 88).getD l1_4.toNatClampNeg 0) + ((a50 87).getD l3_50.toNatClampNeg 0)) else ((a50 88).getD l3_50.toNatClampNeg 0)).toInt ≤ ((a50 88).getD l3_50.toNatClampNeg 0).toInt) ∧ ((bif decide ((((a50 88).getD l1_4.toNatClampNeg 0) + ((a50 87).getD l3_50.toNatClampNeg 0)) < ((a50 88).getD l3_50.toNatClampNeg 0)) then (((a50 88).getD l1_4.toNatClampNeg 0) + ((a50 87).getD l3_50.toNatClampNeg 0)) else ((a50 88).getD l3_50.toNatClampNeg 0)).toInt ≤ (((a50 88).getD l1_4.toNatClampNeg 0) + ((a50 87).getD l3_50.toNatClampNeg 0)).toInt)) ∧ ((bif decide ((((a50 88).getD l1_4.toNatClampNeg 0) + ((a50 87).getD l3_50.toNatClampNeg 0)) < ((a50 88).getD l3_50.toNatClampNeg 0)) then (((a50 88).getD l1_4.toNatClampNeg 0) + ((a50 87).getD l3_50.toNatClampNeg 0)) else ((a50 88).getD l3_50.toNatClampNeg 0)).toInt = ((a50 88).getD l3_50.toNatClampNeg 0).toInt ∨ (bif decide ((((a50 88).getD l1_4.toNatClampNeg 0) + ((a50 87).getD l3_50.toNatClampNeg 0)) < ((a50 88).getD l3_50.toNatClampNeg 0)) then (((a50 88).getD l1_4.toNatClampNeg 0) + ((a50 87).getD l3_50.toNatClampNeg 0)) else ((a50 88).getD l3_50.toNatClampNeg 0)).toInt = (((a50 88).getD l1_4.toNatClampNeg 0) + ((a50 87).getD l3_50.toNatClampNeg 0)).toInt) := kd_min
                                  first | refine ft_goS mi_k71 1 121 [.int (bif decide ((((a50 88).getD l1_4.toNatClampNeg 0) + ((a50 87).getD l3_50.toNatClampNeg 0)) < ((a50 88).getD l3_50.toNatClampNeg 0)) then (((a50 88).getD l1_4.toNatClampNeg 0) + ((a50 87).getD l3_50.toNatClampNeg 0)) else ((a50 88).getD l3_50.toNatClampNeg 0)), .int l3_50, .ref 88] (by rfl) ?_ | refine ft_go mi_k71 1 121 [(3, .int l3_50), (2, .int l2_45), (1, .int l1_4), (0, .ref 49)] [.int (bif decide ((((a50 88).getD l1_4.toNatClampNeg 0) + ((a50 87).getD l3_50.toNatClampNeg 0)) < ((a50 88).getD l3_50.toNatClampNeg 0)) then (((a50 88).getD l1_4.toNatClampNeg 0) + ((a50 87).getD l3_50.toNatClampNeg 0)) else ((a50 88).getD l3_50.toNatClampNeg 0)), .int l3_50, .ref 88] i50 a50 q50 r50 (by rfl) ?_ | refine ko_steps mi_in71 1 _ (121, [(3, .int l3_50), (2, .int l2_45), (1, .int l1_4), (0, .ref 49)], [.int (bif decide ((((a50 88).getD l1_4.toNatClampNeg 0) + ((a50 87).getD l3_50.toNatClampNeg 0)) < ((a50 88).getD l3_50.toNatClampNeg 0)) then (((a50 88).getD l1_4.toNatClampNeg 0) + ((a50 87).getD l3_50.toNatClampNeg 0)) else ((a50 88).getD l3_50.toNatClampNeg 0)), .int l3_50, .ref 88], (0, 0), ks i50 a50 q50 r50) (by rfl) ?_
                                  generalize (bif decide ((((a50 88).getD l1_4.toNatClampNeg 0) + ((a50 87).getD l3_50.toNatClampNeg 0)) < ((a50 88).getD l3_50.toNatClampNeg 0)) then (((a50 88).getD l1_4.toNatClampNeg 0) + ((a50 87).getD l3_50.toNatClampNeg 0)) else ((a50 88).getD l3_50.toNatClampNeg 0)) = m628 at m629 ⊢
                                  refine ko_iast3 mi_k71.1 (n := 8) (c := 8) (ax := (0, 0, 0, 0, 0)) (mi_k71.2 _ _ (by rfl)) (by rfl) (ksG88 _ _ _ _) (ksA88 _ _ _ _) (hL50.I.2.1 88) rfl (oz3 p50_2) (oz936 c54 kn8) ?_
                                  intro a630 ea630 fa630
                                  have hJ630 := kG_a3 hL50 88 rfl ea630 fa630 (kd_bd _)
                                  have s631 : (l3_50 + 1).toInt = l3_50.toInt + (1 : Int32).toInt := kd_add (oz12 p50_2 kn1) (oz474 c54 kn8 kn1)
                                  first | refine fo_goL mi_k71 fz71_78_2_80 [(3, .int (l3_50 + 1)), (2, .int l2_45), (1, .int l1_4), (0, .ref 49)] [] (by rfl) ?_ | refine fo_goL mi_k71 fz71_122_2_80 [(3, .int (l3_50 + 1)), (2, .int l2_45), (1, .int l1_4), (0, .ref 49)] [] (by rfl) ?_
                                  exact ih50 _ _ _ _ _ hJ630 (oz1026 c44 w625 kn8) (oz1027 c49 w566 kn8) (oz14 p50_2 s631 kn1) (kj_meas (oz475 s631 kn1) (oz476 c54 kn8) hm50)
                                by_cases w632 : l1_4.toInt = 7
                                ·
                                  refine ft_alx mi_k71 (pc := 114) (v := 7) (p := 80) (z := 88) (kj_eq w632 (by decide) : l1_4 = 7) (by decide +kernel) (by decide +kernel) ?_
                                  refine fo_goS mi_k71 fz71_115_1_116 [.int l3_50, .ref 88, .int ((a50 88).getD l1_4.toNatClampNeg 0), .int ((a50 88).getD l3_50.toNatClampNeg 0), .int l3_50, .ref 88] rfl ?_
                                  refine ko_iald3 mi_k71.1 (n := 8) (c := 8) (ax := (0, 0, 0, 0, 0)) (mi_k71.2 _ _ (by rfl)) (by rfl) (ksG88 _ _ _ _) (hL50.I.2.1 88) rfl (oz3 p50_2) (oz936 c54 kn8) ?_
                                  have b633 : ((-2147483648 : Int) ≤ ((a50 88).getD l1_4.toNatClampNeg 0).toInt) ∧ (((a50 88).getD l1_4.toNatClampNeg 0).toInt ≤ 2147483647) := kd_bd ((a50 88).getD l1_4.toNatClampNeg 0)
                                  have b634 : ((-2147483648 : Int) ≤ ((a50 88).getD l3_50.toNatClampNeg 0).toInt) ∧ (((a50 88).getD l3_50.toNatClampNeg 0).toInt ≤ 2147483647) := kd_bd ((a50 88).getD l3_50.toNatClampNeg 0)
                                  refine fo_goS mi_k71 fz71_117_1_118 [.int (((a50 88).getD l1_4.toNatClampNeg 0) + ((a50 88).getD l3_50.toNatClampNeg 0)), .int ((a50 88).getD l3_50.toNatClampNeg 0), .int l3_50, .ref 88] rfl ?_
                                  have m636 : (((bif decide ((((a50 88).getD l1_4.toNatClampNeg 0) + ((a50 88).getD l3_50.toNatClampNeg 0)) < ((a50 88).getD l3_50.toNatClampNeg 0)) then (((a50 88).getD l1_4.toNatClampNeg 0) + ((a50 88).getD l3_50.toNatClampNeg 0)) else ((a50 88).getD l3_50.toNatClampNeg 0)).toInt ≤ ((a50 88).getD l3_50.toNatClampNeg 0).toInt) ∧ ((bif decide ((((a50 88).getD l1_4.toNatClampNeg 0) + ((a50 88).getD l3_50.toNatClampNeg 0)) < ((a50 88).getD l3_50.toNatClampNeg 0)) then (((a50 88).getD l1_4.toNatClampNeg 0) + ((a50 88).getD l3_50.toNatClampNeg 0)) else ((a50 88).getD l3_50.toNatClampNeg 0)).toInt ≤ (((a50 88).getD l1_4.toNatClampNeg 0) + ((a50 88).getD l3_50.toNatClampNeg 0)).toInt)) ∧ ((bif decide ((((a50 88).getD l1_4.toNatClampNeg 0) + ((a50 88).getD l3_50.toNatClampNeg 0)) < ((a50 88).getD l3_50.toNatClampNeg 0)) then (((a50 88).getD l1_4.toNatClampNeg 0) + ((a50 88).getD l3_50.toNatClampNeg 0)) else ((a50 88).getD l3_50.toNatClampNeg 0)).toInt = ((a50 88).getD l3_50.toNatClampNeg 0).toInt ∨ (bif decide ((((a50 88).getD l1_4.toNatClampNeg 0) + ((a50 88).getD l3_50.toNatClampNeg 0)) < ((a50 88).getD l3_50.toNatClampNeg 0)) then (((a50 88).getD l1_4.toNatClampNeg 0) + ((a50 88).getD l3_50.toNatClampNeg 0)) else ((a50 88).getD l3_50.toNatClampNeg 0)).toInt = (((a50 88).getD l1_4.toNatClampNeg 0) + ((a50 88).getD l3_50.toNatClampNeg 0)).toInt) := kd_min
                                  first | refine ft_goS mi_k71 1 121 [.int (bif decide ((((a50 88).getD l1_4.toNatClampNeg 0) + ((a50 88).getD l3_50.toNatClampNeg 0)) < ((a50 88).getD l3_50.toNatClampNeg 0)) then (((a50 88).getD l1_4.toNatClampNeg 0) + ((a50 88).getD l3_50.toNatClampNeg 0)) else ((a50 88).getD l3_50.toNatClampNeg 0)), .int l3_50, .ref 88] (by rfl) ?_ | refine ft_go mi_k71 1 121 [(3, .int l3_50), (2, .int l2_45), (1, .int l1_4), (0, .ref 49)] [.int (bif decide ((((a50 88).getD l1_4.toNatClampNeg 0) + ((a50 88).getD l3_50.toNatClampNeg 0)) < ((a50 88).getD l3_50.toNatClampNeg 0)) then (((a50 88).getD l1_4.toNatClampNeg 0) + ((a50 88).getD l3_50.toNatClampNeg 0)) else ((a50 88).getD l3_50.toNatClampNeg 0)), .int l3_50, .ref 88] i50 a50 q50 r50 (by rfl) ?_ | refine ko_steps mi_in71 1 _ (121, [(3, .int l3_50), (2, .int l2_45), (1, .int l1_4), (0, .ref 49)], [.int (bif decide ((((a50 88).getD l1_4.toNatClampNeg 0) + ((a50 88).getD l3_50.toNatClampNeg 0)) < ((a50 88).getD l3_50.toNatClampNeg 0)) then (((a50 88).getD l1_4.toNatClampNeg 0) + ((a50 88).getD l3_50.toNatClampNeg 0)) else ((a50 88).getD l3_50.toNatClampNeg 0)), .int l3_50, .ref 88], (0, 0), ks i50 a50 q50 r50) (by rfl) ?_
                                  generalize (bif decide ((((a50 88).getD l1_4.toNatClampNeg 0) + ((a50 88).getD l3_50.toNatClampNeg 0)) < ((a50 88).getD l3_50.toNatClampNeg 0)) then (((a50 88).getD l1_4.toNatClampNeg 0) + ((a50 88).getD l3_50.toNatClampNeg 0)) else ((a50 88).getD l3_50.toNatClampNeg 0)) = m635 at m636 ⊢
                                  refine ko_iast3 mi_k71.1 (n := 8) (c := 8) (ax := (0, 0, 0, 0, 0)) (mi_k71.2 _ _ (by rfl)) (by rfl) (ksG88 _ _ _ _) (ksA88 _ _ _ _) (hL50.I.2.1 88) rfl (oz3 p50_2) (oz936 c54 kn8) ?_
                                  intro a637 ea637 fa637
                                  have hJ637 := kG_a3 hL50 88 rfl ea637 fa637 (kd_bd _)
                                  have s638 : (l3_50 + 1).toInt = l3_50.toInt + (1 : Int32).toInt := kd_add (oz12 p50_2 kn1) (oz474 c54 kn8 kn1)
                                  first | refine fo_goL mi_k71 fz71_78_2_80 [(3, .int (l3_50 + 1)), (2, .int l2_45), (1, .int l1_4), (0, .ref 49)] [] (by rfl) ?_ | refine fo_goL mi_k71 fz71_122_2_80 [(3, .int (l3_50 + 1)), (2, .int l2_45), (1, .int l1_4), (0, .ref 49)] [] (by rfl) ?_
                                  exact ih50 _ _ _ _ _ hJ637 (oz1027 c44 w632 kn8) (oz1027 c49 w566 kn8) (oz14 p50_2 s638 kn1) (kj_meas (oz475 s638 kn1) (oz476 c54 kn8) hm50)
                                exact (oz1028 c44 p4_0 w583 w590 w597 w604 w611 w618 w625 w632 kn8).elim
                              exact (oz1147_m c49 w566 w582 kn8).elim
                            exact (oz1147_m c49 w566 w574 kn8).elim
                          exact (oz1148_m c49 p45_1 w128 w201 w274 w347 w420 w493 w55 w566 kn8).elim
                    exact lp50 _ _ _ _ _ _ (kG_self _ hL45.I hL45.R) (oz488 c44 p4_0 kn8) (oz488 c49 p45_1 kn8) (oz46 kn0) (Nat.lt_succ_self _)
              exact lp45 _ _ _ _ _ _ (kG_self _ hL4.I hL4.R) (oz488 c44 p4_0 kn8) (oz46 kn0) (Nat.lt_succ_self _)
        exact lp4 _ _ _ _ _ _ (kG_self _ hG3.I hG3.R) (oz46 kn0) (Nat.lt_succ_self _)
      ·
        have c639 : l1_1.toInt < (8 : Int32).toInt := kd_leF c; clear c
        first | refine fo_goL mi_k71 fz71_8_2_10 [(2, .int 0), (1, .int l1_1), (0, .ref 49)] [] (by rfl) ?_ | refine fo_goL mi_k71 fz71_50_2_10 [(2, .int 0), (1, .int l1_1), (0, .ref 49)] [] (by rfl) ?_
        have lp640 : ∀ (nz : Nat) (i640 : Nat → Int32) (a640 : Nat → List Int32) (q640 : Nat → List Int64) (r640 : Nat → Nat) (l2_640 : Int32), kG w71_49_L10_m i1 a1 q1 r1 i640 a640 q640 r640 → ((0 : Int) ≤ l1_1.toInt) ∧ (l1_1.toInt ≤ 7) → (0 : Int) ≤ l2_640.toInt → ((8 - l2_640.toInt)).toNat < nz → ko 1 (mi_h71, mi_c71) P (10, [(2, .int l2_640), (1, .int l1_1), (0, .ref 49)], [], (0, 0), ks i640 a640 q640 r640) := by
          intro nz
          induction nz with
          | zero =>
            intro _ _ _ _ _ _ _ _ hm
            exact absurd hm (Nat.not_lt_zero _)
          | succ nz ih640 =>
            intro i640 a640 q640 r640 l2_640 hL640 p640_0 p640_1 hm640
            refine fo_goL mi_k71 fz71_10_2_13 [(2, .int l2_640), (1, .int l1_1), (0, .ref 49)] [.int 8, .int l2_640] rfl ?_
            refine ft_ifS mi_k71 (decide (8 ≤ l2_640)) 56 16 [] rfl (fun c => ?_) (fun c => ?_)
            ·
              have c641 : (8 : Int32).toInt ≤ l2_640.toInt := kd_le c; clear c
              have hG642 := kG_call hL1 hL640 (by decide +kernel)
              have s643 : (l1_1 + 1).toInt = l1_1.toInt + (1 : Int32).toInt := kd_add (oz12 p1_0 kn1) (oz474 c639 kn8 kn1)
              first | refine fo_goL mi_k71 fz71_0_2_2 [(1, .int (l1_1 + 1)), (2, .int l2_640), (0, .ref 49)] [] (by rfl) ?_ | refine fo_goL mi_k71 fz71_56_2_2 [(1, .int (l1_1 + 1)), (2, .int l2_640), (0, .ref 49)] [] (by rfl) ?_
              refine ko_perm [(1, .int (l1_1 + 1)), (0, .ref 49)] (List.forall_mem_cons.mpr ⟨(List.Mem.head _), (List.forall_mem_cons.mpr ⟨(List.Mem.tail _ (List.Mem.tail _ (List.Mem.head _))), (fun _ h => absurd h List.not_mem_nil)⟩)⟩) ?_
              exact ih1 _ _ _ _ _ hG642 (oz14 p1_0 s643 kn1) (kj_meas (oz475 s643 kn1) (oz476 c639 kn8) hm1)
            ·
              have c644 : l2_640.toInt < (8 : Int32).toInt := kd_leF c; clear c
              refine fo_goS mi_k71 fz71_16_3_21 [.int l1_1, .ref 80] rfl ?_
              by_cases w645 : l1_1.toInt = 0
              ·
                refine ft_alx mi_k71 (pc := 21) (v := 0) (p := 80) (z := 81) (kj_eq w645 (by decide) : l1_1 = 0) (by decide +kernel) (by decide +kernel) ?_
                refine fo_goS mi_k71 fz71_22_3_25 [.int l2_640, .int l1_1, .int l2_640, .ref 81] rfl ?_
                refine ft_ifS mi_k71 (l1_1 == l2_640) 46 28 [.int l2_640, .ref 81] rfl (fun c => ?_) (fun c => ?_)
                ·
                  have c646 : l1_1.toInt = l2_640.toInt := kd_eq c; clear c
                  first | refine fo_goS mi_k71 fz71_43_1_49 [.int 1000, .int l2_640, .ref 81] (by rfl) ?_ | refine fo_goS mi_k71 fz71_46_1_49 [.int 1000, .int l2_640, .ref 81] (by rfl) ?_
                  refine ko_iast3 mi_k71.1 (n := 8) (c := 8) (ax := (0, 0, 0, 0, 0)) (mi_k71.2 _ _ (by rfl)) (by rfl) (ksG81 _ _ _ _) (ksA81 _ _ _ _) (hL640.I.2.1 81) rfl (oz3 p640_1) (oz936 c644 kn8) ?_
                  intro a647 ea647 fa647
                  have hJ647 := kG_a3 hL640 81 rfl ea647 fa647 (kd_bd _)
                  have s648 : (l2_640 + 1).toInt = l2_640.toInt + (1 : Int32).toInt := kd_add (oz12 p640_1 kn1) (oz474 c644 kn8 kn1)
                  first | refine fo_goL mi_k71 fz71_8_2_10 [(2, .int (l2_640 + 1)), (1, .int l1_1), (0, .ref 49)] [] (by rfl) ?_ | refine fo_goL mi_k71 fz71_50_2_10 [(2, .int (l2_640 + 1)), (1, .int l1_1), (0, .ref 49)] [] (by rfl) ?_
                  exact ih640 _ _ _ _ _ hJ647 (oz488 c639 p1_0 kn8) (oz14 p640_1 s648 kn1) (kj_meas (oz475 s648 kn1) (oz476 c644 kn8) hm640)
                ·
                  have c649 : l1_1.toInt ≠ l2_640.toInt := kd_eqF c; clear c
                  refine fo_goS mi_k71 fz71_28_4_36 [.int l1_1, .ref 64, .int l2_640, .ref 81] rfl ?_
                  by_cases w650 : l1_1.toInt = 0
                  ·
                    refine ft_alx mi_k71 (pc := 36) (v := 0) (p := 64) (z := 65) (kj_eq w650 (by decide) : l1_1 = 0) (by decide +kernel) (by decide +kernel) ?_
                    refine fo_goS mi_k71 fz71_37_1_38 [.int l2_640, .ref 65, .int l2_640, .ref 81] rfl ?_
                    refine ko_iald3 mi_k71.1 (n := 8) (c := 8) (ax := (0, 0, 0, 0, 0)) (mi_k71.2 _ _ (by rfl)) (by rfl) (ksG65 _ _ _ _) (hL640.I.2.1 65) rfl (oz3 p640_1) (oz936 c644 kn8) ?_
                    refine ft_ifS mi_k71 (decide (((a640 65).getD l2_640.toNatClampNeg 0) ≤ 0)) 46 42 [.int l2_640, .ref 81] rfl (fun c => ?_) (fun c => ?_)
                    ·
                      have c651 : ((a640 65).getD l2_640.toNatClampNeg 0).toInt ≤ (0 : Int32).toInt := kd_le c; clear c
                      first | refine fo_goS mi_k71 fz71_43_1_49 [.int 1000, .int l2_640, .ref 81] (by rfl) ?_ | refine fo_goS mi_k71 fz71_46_1_49 [.int 1000, .int l2_640, .ref 81] (by rfl) ?_
                      refine ko_iast3 mi_k71.1 (n := 8) (c := 8) (ax := (0, 0, 0, 0, 0)) (mi_k71.2 _ _ (by rfl)) (by rfl) (ksG81 _ _ _ _) (ksA81 _ _ _ _) (hL640.I.2.1 81) rfl (oz3 p640_1) (oz936 c644 kn8) ?_
                      intro a652 ea652 fa652
                      have hJ652 := kG_a3 hL640 81 rfl ea652 fa652 (kd_bd _)
                      have s653 : (l2_640 + 1).toInt = l2_640.toInt + (1 : Int32).toInt := kd_add (oz12 p640_1 kn1) (oz474 c644 kn8 kn1)
                      first | refine fo_goL mi_k71 fz71_8_2_10 [(2, .int (l2_640 + 1)), (1, .int l1_1), (0, .ref 49)] [] (by rfl) ?_ | refine fo_goL mi_k71 fz71_50_2_10 [(2, .int (l2_640 + 1)), (1, .int l1_1), (0, .ref 49)] [] (by rfl) ?_
                      exact ih640 _ _ _ _ _ hJ652 (oz488 c639 p1_0 kn8) (oz14 p640_1 s653 kn1) (kj_meas (oz475 s653 kn1) (oz476 c644 kn8) hm640)
                    ·
                      have c654 : (0 : Int32).toInt < ((a640 65).getD l2_640.toNatClampNeg 0).toInt := kd_leF c; clear c
                      first | refine fo_goS mi_k71 fz71_42_2_49 [.int 1, .int l2_640, .ref 81] (by rfl) ?_ | refine fo_goS mi_k71 fz71_39_2_49 [.int 1, .int l2_640, .ref 81] (by rfl) ?_ | refine ft_goS mi_k71 2 49 [.int 1, .int l2_640, .ref 81] (by rfl) ?_ | refine ft_go mi_k71 2 49 [(2, .int l2_640), (1, .int l1_1), (0, .ref 49)] [.int 1, .int l2_640, .ref 81] i640 a640 q640 r640 (by rfl) ?_ | refine ko_steps mi_in71 2 _ (49, [(2, .int l2_640), (1, .int l1_1), (0, .ref 49)], [.int 1, .int l2_640, .ref 81], (0, 0), ks i640 a640 q640 r640) (by rfl) ?_
                      refine ko_iast3 mi_k71.1 (n := 8) (c := 8) (ax := (0, 0, 0, 0, 0)) (mi_k71.2 _ _ (by rfl)) (by rfl) (ksG81 _ _ _ _) (ksA81 _ _ _ _) (hL640.I.2.1 81) rfl (oz3 p640_1) (oz936 c644 kn8) ?_
                      intro a655 ea655 fa655
                      have hJ655 := kG_a3 hL640 81 rfl ea655 fa655 (kd_bd _)
                      have s656 : (l2_640 + 1).toInt = l2_640.toInt + (1 : Int32).toInt := kd_add (oz12 p640_1 kn1) (oz474 c644 kn8 kn1)
                      first | refine fo_goL mi_k71 fz71_8_2_10 [(2, .int (l2_640 + 1)), (1, .int l1_1), (0, .ref 49)] [] (by rfl) ?_ | refine fo_goL mi_k71 fz71_50_2_10 [(2, .int (l2_640 + 1)), (1, .int l1_1), (0, .ref 49)] [] (by rfl) ?_
                      exact ih640 _ _ _ _ _ hJ655 (oz488 c639 p1_0 kn8) (oz14 p640_1 s656 kn1) (kj_meas (oz475 s656 kn1) (oz476 c644 kn8) hm640)
                  exact (oz1137_m p1_0 w645 w650).elim
              by_cases w664 : l1_1.toInt = 1
              ·
                refine ft_alx mi_k71 (pc := 21) (v := 1) (p := 80) (z := 82) (kj_eq w664 (by decide) : l1_1 = 1) (by decide +kernel) (by decide +kernel) ?_
                refine fo_goS mi_k71 fz71_22_3_25 [.int l2_640, .int l1_1, .int l2_640, .ref 82] rfl ?_
                refine ft_ifS mi_k71 (l1_1 == l2_640) 46 28 [.int l2_640, .ref 82] rfl (fun c => ?_) (fun c => ?_)
                ·
                  have c665 : l1_1.toInt = l2_640.toInt := kd_eq c; clear c
                  first | refine fo_goS mi_k71 fz71_43_1_49 [.int 1000, .int l2_640, .ref 82] (by rfl) ?_ | refine fo_goS mi_k71 fz71_46_1_49 [.int 1000, .int l2_640, .ref 82] (by rfl) ?_
                  refine ko_iast3 mi_k71.1 (n := 8) (c := 8) (ax := (0, 0, 0, 0, 0)) (mi_k71.2 _ _ (by rfl)) (by rfl) (ksG82 _ _ _ _) (ksA82 _ _ _ _) (hL640.I.2.1 82) rfl (oz1149_m c665 w664) (oz936 c644 kn8) ?_
                  intro a666 ea666 fa666
                  have hJ666 := kG_a3 hL640 82 rfl ea666 fa666 (kd_bd _)
                  have s667 : (l2_640 + 1).toInt = l2_640.toInt + (1 : Int32).toInt := kd_add (oz1150_m c665 w664 kn1) (oz474 c644 kn8 kn1)
                  first | refine fo_goL mi_k71 fz71_8_2_10 [(2, .int (l2_640 + 1)), (1, .int l1_1), (0, .ref 49)] [] (by rfl) ?_ | refine fo_goL mi_k71 fz71_50_2_10 [(2, .int (l2_640 + 1)), (1, .int l1_1), (0, .ref 49)] [] (by rfl) ?_
                  exact ih640 _ _ _ _ _ hJ666 (oz1021 c639 w664 kn8) (oz1151_m c665 s667 w664 kn1) (kj_meas (oz475 s667 kn1) (oz476 c644 kn8) hm640)
                ·
                  have c668 : l1_1.toInt ≠ l2_640.toInt := kd_eqF c; clear c
                  refine fo_goS mi_k71 fz71_28_4_36 [.int l1_1, .ref 64, .int l2_640, .ref 82] rfl ?_
                  by_cases w670 : l1_1.toInt = 1
                  ·
                    refine ft_alx mi_k71 (pc := 36) (v := 1) (p := 64) (z := 66) (kj_eq w670 (by decide) : l1_1 = 1) (by decide +kernel) (by decide +kernel) ?_
                    refine fo_goS mi_k71 fz71_37_1_38 [.int l2_640, .ref 66, .int l2_640, .ref 82] rfl ?_
                    refine ko_iald3 mi_k71.1 (n := 8) (c := 8) (ax := (0, 0, 0, 0, 0)) (mi_k71.2 _ _ (by rfl)) (by rfl) (ksG66 _ _ _ _) (hL640.I.2.1 66) rfl (oz3 p640_1) (oz936 c644 kn8) ?_
                    refine ft_ifS mi_k71 (decide (((a640 66).getD l2_640.toNatClampNeg 0) ≤ 0)) 46 42 [.int l2_640, .ref 82] rfl (fun c => ?_) (fun c => ?_)
                    ·
                      have c671 : ((a640 66).getD l2_640.toNatClampNeg 0).toInt ≤ (0 : Int32).toInt := kd_le c; clear c
                      first | refine fo_goS mi_k71 fz71_43_1_49 [.int 1000, .int l2_640, .ref 82] (by rfl) ?_ | refine fo_goS mi_k71 fz71_46_1_49 [.int 1000, .int l2_640, .ref 82] (by rfl) ?_
                      refine ko_iast3 mi_k71.1 (n := 8) (c := 8) (ax := (0, 0, 0, 0, 0)) (mi_k71.2 _ _ (by rfl)) (by rfl) (ksG82 _ _ _ _) (ksA82 _ _ _ _) (hL640.I.2.1 82) rfl (oz3 p640_1) (oz936 c644 kn8) ?_
                      intro a672 ea672 fa672
                      have hJ672 := kG_a3 hL640 82 rfl ea672 fa672 (kd_bd _)
                      have s673 : (l2_640 + 1).toInt = l2_640.toInt + (1 : Int32).toInt := kd_add (oz12 p640_1 kn1) (oz474 c644 kn8 kn1)
                      first | refine fo_goL mi_k71 fz71_8_2_10 [(2, .int (l2_640 + 1)), (1, .int l1_1), (0, .ref 49)] [] (by rfl) ?_ | refine fo_goL mi_k71 fz71_50_2_10 [(2, .int (l2_640 + 1)), (1, .int l1_1), (0, .ref 49)] [] (by rfl) ?_
                      exact ih640 _ _ _ _ _ hJ672 (oz1021 c639 w664 kn8) (oz14 p640_1 s673 kn1) (kj_meas (oz475 s673 kn1) (oz476 c644 kn8) hm640)
                    ·
                      have c674 : (0 : Int32).toInt < ((a640 66).getD l2_640.toNatClampNeg 0).toInt := kd_leF c; clear c
                      first | refine fo_goS mi_k71 fz71_42_2_49 [.int 1, .int l2_640, .ref 82] (by rfl) ?_ | refine fo_goS mi_k71 fz71_39_2_49 [.int 1, .int l2_640, .ref 82] (by rfl) ?_ | refine ft_goS mi_k71 2 49 [.int 1, .int l2_640, .ref 82] (by rfl) ?_ | refine ft_go mi_k71 2 49 [(2, .int l2_640), (1, .int l1_1), (0, .ref 49)] [.int 1, .int l2_640, .ref 82] i640 a640 q640 r640 (by rfl) ?_ | refine ko_steps mi_in71 2 _ (49, [(2, .int l2_640), (1, .int l1_1), (0, .ref 49)], [.int 1, .int l2_640, .ref 82], (0, 0), ks i640 a640 q640 r640) (by rfl) ?_
                      refine ko_iast3 mi_k71.1 (n := 8) (c := 8) (ax := (0, 0, 0, 0, 0)) (mi_k71.2 _ _ (by rfl)) (by rfl) (ksG82 _ _ _ _) (ksA82 _ _ _ _) (hL640.I.2.1 82) rfl (oz3 p640_1) (oz936 c644 kn8) ?_
                      intro a675 ea675 fa675
                      have hJ675 := kG_a3 hL640 82 rfl ea675 fa675 (kd_bd _)
                      have s676 : (l2_640 + 1).toInt = l2_640.toInt + (1 : Int32).toInt := kd_add (oz12 p640_1 kn1) (oz474 c644 kn8 kn1)
                      first | refine fo_goL mi_k71 fz71_8_2_10 [(2, .int (l2_640 + 1)), (1, .int l1_1), (0, .ref 49)] [] (by rfl) ?_ | refine fo_goL mi_k71 fz71_50_2_10 [(2, .int (l2_640 + 1)), (1, .int l1_1), (0, .ref 49)] [] (by rfl) ?_
                      exact ih640 _ _ _ _ _ hJ675 (oz1021 c639 w664 kn8) (oz14 p640_1 s676 kn1) (kj_meas (oz475 s676 kn1) (oz476 c644 kn8) hm640)
                  exact (oz995 w664 w670).elim
              by_cases w683 : l1_1.toInt = 2
              ·
                refine ft_alx mi_k71 (pc := 21) (v := 2) (p := 80) (z := 83) (kj_eq w683 (by decide) : l1_1 = 2) (by decide +kernel) (by decide +kernel) ?_
                refine fo_goS mi_k71 fz71_22_3_25 [.int l2_640, .int l1_1, .int l2_640, .ref 83] rfl ?_
                refine ft_ifS mi_k71 (l1_1 == l2_640) 46 28 [.int l2_640, .ref 83] rfl (fun c => ?_) (fun c => ?_)
                ·
                  have c684 : l1_1.toInt = l2_640.toInt := kd_eq c; clear c
                  first | refine fo_goS mi_k71 fz71_43_1_49 [.int 1000, .int l2_640, .ref 83] (by rfl) ?_ | refine fo_goS mi_k71 fz71_46_1_49 [.int 1000, .int l2_640, .ref 83] (by rfl) ?_
                  refine ko_iast3 mi_k71.1 (n := 8) (c := 8) (ax := (0, 0, 0, 0, 0)) (mi_k71.2 _ _ (by rfl)) (by rfl) (ksG83 _ _ _ _) (ksA83 _ _ _ _) (hL640.I.2.1 83) rfl (oz1152_m c684 w683) (oz936 c644 kn8) ?_
                  intro a685 ea685 fa685
                  have hJ685 := kG_a3 hL640 83 rfl ea685 fa685 (kd_bd _)
                  have s686 : (l2_640 + 1).toInt = l2_640.toInt + (1 : Int32).toInt := kd_add (oz1153_m c684 w683 kn1) (oz474 c644 kn8 kn1)
                  first | refine fo_goL mi_k71 fz71_8_2_10 [(2, .int (l2_640 + 1)), (1, .int l1_1), (0, .ref 49)] [] (by rfl) ?_ | refine fo_goL mi_k71 fz71_50_2_10 [(2, .int (l2_640 + 1)), (1, .int l1_1), (0, .ref 49)] [] (by rfl) ?_
                  exact ih640 _ _ _ _ _ hJ685 (oz1022 c639 w683 kn8) (oz1154_m c684 s686 w683 kn1) (kj_meas (oz475 s686 kn1) (oz476 c644 kn8) hm640)
                ·
                  have c687 : l1_1.toInt ≠ l2_640.toInt := kd_eqF c; clear c
                  refine fo_goS mi_k71 fz71_28_4_36 [.int l1_1, .ref 64, .int l2_640, .ref 83] rfl ?_
                  by_cases w690 : l1_1.toInt = 2
                  ·
                    refine ft_alx mi_k71 (pc := 36) (v := 2) (p := 64) (z := 67) (kj_eq w690 (by decide) : l1_1 = 2) (by decide +kernel) (by decide +kernel) ?_
                    refine fo_goS mi_k71 fz71_37_1_38 [.int l2_640, .ref 67, .int l2_640, .ref 83] rfl ?_
                    refine ko_iald3 mi_k71.1 (n := 8) (c := 8) (ax := (0, 0, 0, 0, 0)) (mi_k71.2 _ _ (by rfl)) (by rfl) (ksG67 _ _ _ _) (hL640.I.2.1 67) rfl (oz3 p640_1) (oz936 c644 kn8) ?_
                    refine ft_ifS mi_k71 (decide (((a640 67).getD l2_640.toNatClampNeg 0) ≤ 0)) 46 42 [.int l2_640, .ref 83] rfl (fun c => ?_) (fun c => ?_)
                    ·
                      have c691 : ((a640 67).getD l2_640.toNatClampNeg 0).toInt ≤ (0 : Int32).toInt := kd_le c; clear c
                      first | refine fo_goS mi_k71 fz71_43_1_49 [.int 1000, .int l2_640, .ref 83] (by rfl) ?_ | refine fo_goS mi_k71 fz71_46_1_49 [.int 1000, .int l2_640, .ref 83] (by rfl) ?_
                      refine ko_iast3 mi_k71.1 (n := 8) (c := 8) (ax := (0, 0, 0, 0, 0)) (mi_k71.2 _ _ (by rfl)) (by rfl) (ksG83 _ _ _ _) (ksA83 _ _ _ _) (hL640.I.2.1 83) rfl (oz3 p640_1) (oz936 c644 kn8) ?_
                      intro a692 ea692 fa692
                      have hJ692 := kG_a3 hL640 83 rfl ea692 fa692 (kd_bd _)
                      have s693 : (l2_640 + 1).toInt = l2_640.toInt + (1 : Int32).toInt := kd_add (oz12 p640_1 kn1) (oz474 c644 kn8 kn1)
                      first | refine fo_goL mi_k71 fz71_8_2_10 [(2, .int (l2_640 + 1)), (1, .int l1_1), (0, .ref 49)] [] (by rfl) ?_ | refine fo_goL mi_k71 fz71_50_2_10 [(2, .int (l2_640 + 1)), (1, .int l1_1), (0, .ref 49)] [] (by rfl) ?_
                      exact ih640 _ _ _ _ _ hJ692 (oz1022 c639 w683 kn8) (oz14 p640_1 s693 kn1) (kj_meas (oz475 s693 kn1) (oz476 c644 kn8) hm640)
                    ·
                      have c694 : (0 : Int32).toInt < ((a640 67).getD l2_640.toNatClampNeg 0).toInt := kd_leF c; clear c
                      first | refine fo_goS mi_k71 fz71_42_2_49 [.int 1, .int l2_640, .ref 83] (by rfl) ?_ | refine fo_goS mi_k71 fz71_39_2_49 [.int 1, .int l2_640, .ref 83] (by rfl) ?_ | refine ft_goS mi_k71 2 49 [.int 1, .int l2_640, .ref 83] (by rfl) ?_ | refine ft_go mi_k71 2 49 [(2, .int l2_640), (1, .int l1_1), (0, .ref 49)] [.int 1, .int l2_640, .ref 83] i640 a640 q640 r640 (by rfl) ?_ | refine ko_steps mi_in71 2 _ (49, [(2, .int l2_640), (1, .int l1_1), (0, .ref 49)], [.int 1, .int l2_640, .ref 83], (0, 0), ks i640 a640 q640 r640) (by rfl) ?_
                      refine ko_iast3 mi_k71.1 (n := 8) (c := 8) (ax := (0, 0, 0, 0, 0)) (mi_k71.2 _ _ (by rfl)) (by rfl) (ksG83 _ _ _ _) (ksA83 _ _ _ _) (hL640.I.2.1 83) rfl (oz3 p640_1) (oz936 c644 kn8) ?_
                      intro a695 ea695 fa695
                      have hJ695 := kG_a3 hL640 83 rfl ea695 fa695 (kd_bd _)
                      have s696 : (l2_640 + 1).toInt = l2_640.toInt + (1 : Int32).toInt := kd_add (oz12 p640_1 kn1) (oz474 c644 kn8 kn1)
                      first | refine fo_goL mi_k71 fz71_8_2_10 [(2, .int (l2_640 + 1)), (1, .int l1_1), (0, .ref 49)] [] (by rfl) ?_ | refine fo_goL mi_k71 fz71_50_2_10 [(2, .int (l2_640 + 1)), (1, .int l1_1), (0, .ref 49)] [] (by rfl) ?_
                      exact ih640 _ _ _ _ _ hJ695 (oz1022 c639 w683 kn8) (oz14 p640_1 s696 kn1) (kj_meas (oz475 s696 kn1) (oz476 c644 kn8) hm640)
                  exact (oz998 w683 w690).elim
              by_cases w702 : l1_1.toInt = 3
              ·
                refine ft_alx mi_k71 (pc := 21) (v := 3) (p := 80) (z := 84) (kj_eq w702 (by decide) : l1_1 = 3) (by decide +kernel) (by decide +kernel) ?_
                refine fo_goS mi_k71 fz71_22_3_25 [.int l2_640, .int l1_1, .int l2_640, .ref 84] rfl ?_
                refine ft_ifS mi_k71 (l1_1 == l2_640) 46 28 [.int l2_640, .ref 84] rfl (fun c => ?_) (fun c => ?_)
                ·
                  have c703 : l1_1.toInt = l2_640.toInt := kd_eq c; clear c
                  first | refine fo_goS mi_k71 fz71_43_1_49 [.int 1000, .int l2_640, .ref 84] (by rfl) ?_ | refine fo_goS mi_k71 fz71_46_1_49 [.int 1000, .int l2_640, .ref 84] (by rfl) ?_
                  refine ko_iast3 mi_k71.1 (n := 8) (c := 8) (ax := (0, 0, 0, 0, 0)) (mi_k71.2 _ _ (by rfl)) (by rfl) (ksG84 _ _ _ _) (ksA84 _ _ _ _) (hL640.I.2.1 84) rfl (oz1155_m c703 w702) (oz936 c644 kn8) ?_
                  intro a704 ea704 fa704
                  have hJ704 := kG_a3 hL640 84 rfl ea704 fa704 (kd_bd _)
                  have s705 : (l2_640 + 1).toInt = l2_640.toInt + (1 : Int32).toInt := kd_add (oz1156_m c703 w702 kn1) (oz474 c644 kn8 kn1)
                  first | refine fo_goL mi_k71 fz71_8_2_10 [(2, .int (l2_640 + 1)), (1, .int l1_1), (0, .ref 49)] [] (by rfl) ?_ | refine fo_goL mi_k71 fz71_50_2_10 [(2, .int (l2_640 + 1)), (1, .int l1_1), (0, .ref 49)] [] (by rfl) ?_
                  exact ih640 _ _ _ _ _ hJ704 (oz1023 c639 w702 kn8) (oz1157_m c703 s705 w702 kn1) (kj_meas (oz475 s705 kn1) (oz476 c644 kn8) hm640)
                ·
                  have c706 : l1_1.toInt ≠ l2_640.toInt := kd_eqF c; clear c
                  refine fo_goS mi_k71 fz71_28_4_36 [.int l1_1, .ref 64, .int l2_640, .ref 84] rfl ?_
                  by_cases w710 : l1_1.toInt = 3
                  ·
                    refine ft_alx mi_k71 (pc := 36) (v := 3) (p := 64) (z := 68) (kj_eq w710 (by decide) : l1_1 = 3) (by decide +kernel) (by decide +kernel) ?_
                    refine fo_goS mi_k71 fz71_37_1_38 [.int l2_640, .ref 68, .int l2_640, .ref 84] rfl ?_
                    refine ko_iald3 mi_k71.1 (n := 8) (c := 8) (ax := (0, 0, 0, 0, 0)) (mi_k71.2 _ _ (by rfl)) (by rfl) (ksG68 _ _ _ _) (hL640.I.2.1 68) rfl (oz3 p640_1) (oz936 c644 kn8) ?_
                    refine ft_ifS mi_k71 (decide (((a640 68).getD l2_640.toNatClampNeg 0) ≤ 0)) 46 42 [.int l2_640, .ref 84] rfl (fun c => ?_) (fun c => ?_)
                    ·
                      have c711 : ((a640 68).getD l2_640.toNatClampNeg 0).toInt ≤ (0 : Int32).toInt := kd_le c; clear c
                      first | refine fo_goS mi_k71 fz71_43_1_49 [.int 1000, .int l2_640, .ref 84] (by rfl) ?_ | refine fo_goS mi_k71 fz71_46_1_49 [.int 1000, .int l2_640, .ref 84] (by rfl) ?_
                      refine ko_iast3 mi_k71.1 (n := 8) (c := 8) (ax := (0, 0, 0, 0, 0)) (mi_k71.2 _ _ (by rfl)) (by rfl) (ksG84 _ _ _ _) (ksA84 _ _ _ _) (hL640.I.2.1 84) rfl (oz3 p640_1) (oz936 c644 kn8) ?_
                      intro a712 ea712 fa712
                      have hJ712 := kG_a3 hL640 84 rfl ea712 fa712 (kd_bd _)
                      have s713 : (l2_640 + 1).toInt = l2_640.toInt + (1 : Int32).toInt := kd_add (oz12 p640_1 kn1) (oz474 c644 kn8 kn1)
                      first | refine fo_goL mi_k71 fz71_8_2_10 [(2, .int (l2_640 + 1)), (1, .int l1_1), (0, .ref 49)] [] (by rfl) ?_ | refine fo_goL mi_k71 fz71_50_2_10 [(2, .int (l2_640 + 1)), (1, .int l1_1), (0, .ref 49)] [] (by rfl) ?_
                      exact ih640 _ _ _ _ _ hJ712 (oz1023 c639 w702 kn8) (oz14 p640_1 s713 kn1) (kj_meas (oz475 s713 kn1) (oz476 c644 kn8) hm640)
                    ·
                      have c714 : (0 : Int32).toInt < ((a640 68).getD l2_640.toNatClampNeg 0).toInt := kd_leF c; clear c
                      first | refine fo_goS mi_k71 fz71_42_2_49 [.int 1, .int l2_640, .ref 84] (by rfl) ?_ | refine fo_goS mi_k71 fz71_39_2_49 [.int 1, .int l2_640, .ref 84] (by rfl) ?_ | refine ft_goS mi_k71 2 49 [.int 1, .int l2_640, .ref 84] (by rfl) ?_ | refine ft_go mi_k71 2 49 [(2, .int l2_640), (1, .int l1_1), (0, .ref 49)] [.int 1, .int l2_640, .ref 84] i640 a640 q640 r640 (by rfl) ?_ | refine ko_steps mi_in71 2 _ (49, [(2, .int l2_640), (1, .int l1_1), (0, .ref 49)], [.int 1, .int l2_640, .ref 84], (0, 0), ks i640 a640 q640 r640) (by rfl) ?_
                      refine ko_iast3 mi_k71.1 (n := 8) (c := 8) (ax := (0, 0, 0, 0, 0)) (mi_k71.2 _ _ (by rfl)) (by rfl) (ksG84 _ _ _ _) (ksA84 _ _ _ _) (hL640.I.2.1 84) rfl (oz3 p640_1) (oz936 c644 kn8) ?_
                      intro a715 ea715 fa715
                      have hJ715 := kG_a3 hL640 84 rfl ea715 fa715 (kd_bd _)
                      have s716 : (l2_640 + 1).toInt = l2_640.toInt + (1 : Int32).toInt := kd_add (oz12 p640_1 kn1) (oz474 c644 kn8 kn1)
                      first | refine fo_goL mi_k71 fz71_8_2_10 [(2, .int (l2_640 + 1)), (1, .int l1_1), (0, .ref 49)] [] (by rfl) ?_ | refine fo_goL mi_k71 fz71_50_2_10 [(2, .int (l2_640 + 1)), (1, .int l1_1), (0, .ref 49)] [] (by rfl) ?_
                      exact ih640 _ _ _ _ _ hJ715 (oz1023 c639 w702 kn8) (oz14 p640_1 s716 kn1) (kj_meas (oz475 s716 kn1) (oz476 c644 kn8) hm640)
                  exact (oz1001 w702 w710).elim
              by_cases w721 : l1_1.toInt = 4
              ·
                refine ft_alx mi_k71 (pc := 21) (v := 4) (p := 80) (z := 85) (kj_eq w721 (by decide) : l1_1 = 4) (by decide +kernel) (by decide +kernel) ?_
                refine fo_goS mi_k71 fz71_22_3_25 [.int l2_640, .int l1_1, .int l2_640, .ref 85] rfl ?_
                refine ft_ifS mi_k71 (l1_1 == l2_640) 46 28 [.int l2_640, .ref 85] rfl (fun c => ?_) (fun c => ?_)
                ·
                  have c722 : l1_1.toInt = l2_640.toInt := kd_eq c; clear c
                  first | refine fo_goS mi_k71 fz71_43_1_49 [.int 1000, .int l2_640, .ref 85] (by rfl) ?_ | refine fo_goS mi_k71 fz71_46_1_49 [.int 1000, .int l2_640, .ref 85] (by rfl) ?_
                  refine ko_iast3 mi_k71.1 (n := 8) (c := 8) (ax := (0, 0, 0, 0, 0)) (mi_k71.2 _ _ (by rfl)) (by rfl) (ksG85 _ _ _ _) (ksA85 _ _ _ _) (hL640.I.2.1 85) rfl (oz1158_m c722 w721) (oz936 c644 kn8) ?_
                  intro a723 ea723 fa723
                  have hJ723 := kG_a3 hL640 85 rfl ea723 fa723 (kd_bd _)
                  have s724 : (l2_640 + 1).toInt = l2_640.toInt + (1 : Int32).toInt := kd_add (oz1159_m c722 w721 kn1) (oz474 c644 kn8 kn1)
                  first | refine fo_goL mi_k71 fz71_8_2_10 [(2, .int (l2_640 + 1)), (1, .int l1_1), (0, .ref 49)] [] (by rfl) ?_ | refine fo_goL mi_k71 fz71_50_2_10 [(2, .int (l2_640 + 1)), (1, .int l1_1), (0, .ref 49)] [] (by rfl) ?_
                  exact ih640 _ _ _ _ _ hJ723 (oz1024 c639 w721 kn8) (oz1160_m c722 s724 w721 kn1) (kj_meas (oz475 s724 kn1) (oz476 c644 kn8) hm640)
                ·
                  have c725 : l1_1.toInt ≠ l2_640.toInt := kd_eqF c; clear c
                  refine fo_goS mi_k71 fz71_28_4_36 [.int l1_1, .ref 64, .int l2_640, .ref 85] rfl ?_
                  by_cases w730 : l1_1.toInt = 4
                  ·
                    refine ft_alx mi_k71 (pc := 36) (v := 4) (p := 64) (z := 69) (kj_eq w730 (by decide) : l1_1 = 4) (by decide +kernel) (by decide +kernel) ?_
                    refine fo_goS mi_k71 fz71_37_1_38 [.int l2_640, .ref 69, .int l2_640, .ref 85] rfl ?_
                    refine ko_iald3 mi_k71.1 (n := 8) (c := 8) (ax := (0, 0, 0, 0, 0)) (mi_k71.2 _ _ (by rfl)) (by rfl) (ksG69 _ _ _ _) (hL640.I.2.1 69) rfl (oz3 p640_1) (oz936 c644 kn8) ?_
                    refine ft_ifS mi_k71 (decide (((a640 69).getD l2_640.toNatClampNeg 0) ≤ 0)) 46 42 [.int l2_640, .ref 85] rfl (fun c => ?_) (fun c => ?_)
                    ·
                      have c731 : ((a640 69).getD l2_640.toNatClampNeg 0).toInt ≤ (0 : Int32).toInt := kd_le c; clear c
                      first | refine fo_goS mi_k71 fz71_43_1_49 [.int 1000, .int l2_640, .ref 85] (by rfl) ?_ | refine fo_goS mi_k71 fz71_46_1_49 [.int 1000, .int l2_640, .ref 85] (by rfl) ?_
                      refine ko_iast3 mi_k71.1 (n := 8) (c := 8) (ax := (0, 0, 0, 0, 0)) (mi_k71.2 _ _ (by rfl)) (by rfl) (ksG85 _ _ _ _) (ksA85 _ _ _ _) (hL640.I.2.1 85) rfl (oz3 p640_1) (oz936 c644 kn8) ?_
                      intro a732 ea732 fa732
                      have hJ732 := kG_a3 hL640 85 rfl ea732 fa732 (kd_bd _)
                      have s733 : (l2_640 + 1).toInt = l2_640.toInt + (1 : Int32).toInt := kd_add (oz12 p640_1 kn1) (oz474 c644 kn8 kn1)
                      first | refine fo_goL mi_k71 fz71_8_2_10 [(2, .int (l2_640 + 1)), (1, .int l1_1), (0, .ref 49)] [] (by rfl) ?_ | refine fo_goL mi_k71 fz71_50_2_10 [(2, .int (l2_640 + 1)), (1, .int l1_1), (0, .ref 49)] [] (by rfl) ?_
                      exact ih640 _ _ _ _ _ hJ732 (oz1024 c639 w721 kn8) (oz14 p640_1 s733 kn1) (kj_meas (oz475 s733 kn1) (oz476 c644 kn8) hm640)
                    ·
                      have c734 : (0 : Int32).toInt < ((a640 69).getD l2_640.toNatClampNeg 0).toInt := kd_leF c; clear c
                      first | refine fo_goS mi_k71 fz71_42_2_49 [.int 1, .int l2_640, .ref 85] (by rfl) ?_ | refine fo_goS mi_k71 fz71_39_2_49 [.int 1, .int l2_640, .ref 85] (by rfl) ?_ | refine ft_goS mi_k71 2 49 [.int 1, .int l2_640, .ref 85] (by rfl) ?_ | refine ft_go mi_k71 2 49 [(2, .int l2_640), (1, .int l1_1), (0, .ref 49)] [.int 1, .int l2_640, .ref 85] i640 a640 q640 r640 (by rfl) ?_ | refine ko_steps mi_in71 2 _ (49, [(2, .int l2_640), (1, .int l1_1), (0, .ref 49)], [.int 1, .int l2_640, .ref 85], (0, 0), ks i640 a640 q640 r640) (by rfl) ?_
                      refine ko_iast3 mi_k71.1 (n := 8) (c := 8) (ax := (0, 0, 0, 0, 0)) (mi_k71.2 _ _ (by rfl)) (by rfl) (ksG85 _ _ _ _) (ksA85 _ _ _ _) (hL640.I.2.1 85) rfl (oz3 p640_1) (oz936 c644 kn8) ?_
                      intro a735 ea735 fa735
                      have hJ735 := kG_a3 hL640 85 rfl ea735 fa735 (kd_bd _)
                      have s736 : (l2_640 + 1).toInt = l2_640.toInt + (1 : Int32).toInt := kd_add (oz12 p640_1 kn1) (oz474 c644 kn8 kn1)
                      first | refine fo_goL mi_k71 fz71_8_2_10 [(2, .int (l2_640 + 1)), (1, .int l1_1), (0, .ref 49)] [] (by rfl) ?_ | refine fo_goL mi_k71 fz71_50_2_10 [(2, .int (l2_640 + 1)), (1, .int l1_1), (0, .ref 49)] [] (by rfl) ?_
                      exact ih640 _ _ _ _ _ hJ735 (oz1024 c639 w721 kn8) (oz14 p640_1 s736 kn1) (kj_meas (oz475 s736 kn1) (oz476 c644 kn8) hm640)
                  exact (oz1004 w721 w730).elim
              by_cases w740 : l1_1.toInt = 5
              ·
                refine ft_alx mi_k71 (pc := 21) (v := 5) (p := 80) (z := 86) (kj_eq w740 (by decide) : l1_1 = 5) (by decide +kernel) (by decide +kernel) ?_
                refine fo_goS mi_k71 fz71_22_3_25 [.int l2_640, .int l1_1, .int l2_640, .ref 86] rfl ?_
                refine ft_ifS mi_k71 (l1_1 == l2_640) 46 28 [.int l2_640, .ref 86] rfl (fun c => ?_) (fun c => ?_)
                ·
                  have c741 : l1_1.toInt = l2_640.toInt := kd_eq c; clear c
                  first | refine fo_goS mi_k71 fz71_43_1_49 [.int 1000, .int l2_640, .ref 86] (by rfl) ?_ | refine fo_goS mi_k71 fz71_46_1_49 [.int 1000, .int l2_640, .ref 86] (by rfl) ?_
                  refine ko_iast3 mi_k71.1 (n := 8) (c := 8) (ax := (0, 0, 0, 0, 0)) (mi_k71.2 _ _ (by rfl)) (by rfl) (ksG86 _ _ _ _) (ksA86 _ _ _ _) (hL640.I.2.1 86) rfl (oz1161_m c741 w740) (oz936 c644 kn8) ?_
                  intro a742 ea742 fa742
                  have hJ742 := kG_a3 hL640 86 rfl ea742 fa742 (kd_bd _)
                  have s743 : (l2_640 + 1).toInt = l2_640.toInt + (1 : Int32).toInt := kd_add (oz1162_m c741 w740 kn1) (oz474 c644 kn8 kn1)
                  first | refine fo_goL mi_k71 fz71_8_2_10 [(2, .int (l2_640 + 1)), (1, .int l1_1), (0, .ref 49)] [] (by rfl) ?_ | refine fo_goL mi_k71 fz71_50_2_10 [(2, .int (l2_640 + 1)), (1, .int l1_1), (0, .ref 49)] [] (by rfl) ?_
                  exact ih640 _ _ _ _ _ hJ742 (oz1025 c639 w740 kn8) (oz1163_m c741 s743 w740 kn1) (kj_meas (oz475 s743 kn1) (oz476 c644 kn8) hm640)
                ·
                  have c744 : l1_1.toInt ≠ l2_640.toInt := kd_eqF c; clear c
                  refine fo_goS mi_k71 fz71_28_4_36 [.int l1_1, .ref 64, .int l2_640, .ref 86] rfl ?_
                  by_cases w750 : l1_1.toInt = 5
                  ·
                    refine ft_alx mi_k71 (pc := 36) (v := 5) (p := 64) (z := 70) (kj_eq w750 (by decide) : l1_1 = 5) (by decide +kernel) (by decide +kernel) ?_
                    refine fo_goS mi_k71 fz71_37_1_38 [.int l2_640, .ref 70, .int l2_640, .ref 86] rfl ?_
                    refine ko_iald3 mi_k71.1 (n := 8) (c := 8) (ax := (0, 0, 0, 0, 0)) (mi_k71.2 _ _ (by rfl)) (by rfl) (ksG70 _ _ _ _) (hL640.I.2.1 70) rfl (oz3 p640_1) (oz936 c644 kn8) ?_
                    refine ft_ifS mi_k71 (decide (((a640 70).getD l2_640.toNatClampNeg 0) ≤ 0)) 46 42 [.int l2_640, .ref 86] rfl (fun c => ?_) (fun c => ?_)
                    ·
                      have c751 : ((a640 70).getD l2_640.toNatClampNeg 0).toInt ≤ (0 : Int32).toInt := kd_le c; clear c
                      first | refine fo_goS mi_k71 fz71_43_1_49 [.int 1000, .int l2_640, .ref 86] (by rfl) ?_ | refine fo_goS mi_k71 fz71_46_1_49 [.int 1000, .int l2_640, .ref 86] (by rfl) ?_
                      refine ko_iast3 mi_k71.1 (n := 8) (c := 8) (ax := (0, 0, 0, 0, 0)) (mi_k71.2 _ _ (by rfl)) (by rfl) (ksG86 _ _ _ _) (ksA86 _ _ _ _) (hL640.I.2.1 86) rfl (oz3 p640_1) (oz936 c644 kn8) ?_
                      intro a752 ea752 fa752
                      have hJ752 := kG_a3 hL640 86 rfl ea752 fa752 (kd_bd _)
                      have s753 : (l2_640 + 1).toInt = l2_640.toInt + (1 : Int32).toInt := kd_add (oz12 p640_1 kn1) (oz474 c644 kn8 kn1)
                      first | refine fo_goL mi_k71 fz71_8_2_10 [(2, .int (l2_640 + 1)), (1, .int l1_1), (0, .ref 49)] [] (by rfl) ?_ | refine fo_goL mi_k71 fz71_50_2_10 [(2, .int (l2_640 + 1)), (1, .int l1_1), (0, .ref 49)] [] (by rfl) ?_
                      exact ih640 _ _ _ _ _ hJ752 (oz1025 c639 w740 kn8) (oz14 p640_1 s753 kn1) (kj_meas (oz475 s753 kn1) (oz476 c644 kn8) hm640)
                    ·
                      have c754 : (0 : Int32).toInt < ((a640 70).getD l2_640.toNatClampNeg 0).toInt := kd_leF c; clear c
                      first | refine fo_goS mi_k71 fz71_42_2_49 [.int 1, .int l2_640, .ref 86] (by rfl) ?_ | refine fo_goS mi_k71 fz71_39_2_49 [.int 1, .int l2_640, .ref 86] (by rfl) ?_ | refine ft_goS mi_k71 2 49 [.int 1, .int l2_640, .ref 86] (by rfl) ?_ | refine ft_go mi_k71 2 49 [(2, .int l2_640), (1, .int l1_1), (0, .ref 49)] [.int 1, .int l2_640, .ref 86] i640 a640 q640 r640 (by rfl) ?_ | refine ko_steps mi_in71 2 _ (49, [(2, .int l2_640), (1, .int l1_1), (0, .ref 49)], [.int 1, .int l2_640, .ref 86], (0, 0), ks i640 a640 q640 r640) (by rfl) ?_
                      refine ko_iast3 mi_k71.1 (n := 8) (c := 8) (ax := (0, 0, 0, 0, 0)) (mi_k71.2 _ _ (by rfl)) (by rfl) (ksG86 _ _ _ _) (ksA86 _ _ _ _) (hL640.I.2.1 86) rfl (oz3 p640_1) (oz936 c644 kn8) ?_
                      intro a755 ea755 fa755
                      have hJ755 := kG_a3 hL640 86 rfl ea755 fa755 (kd_bd _)
                      have s756 : (l2_640 + 1).toInt = l2_640.toInt + (1 : Int32).toInt := kd_add (oz12 p640_1 kn1) (oz474 c644 kn8 kn1)
                      first | refine fo_goL mi_k71 fz71_8_2_10 [(2, .int (l2_640 + 1)), (1, .int l1_1), (0, .ref 49)] [] (by rfl) ?_ | refine fo_goL mi_k71 fz71_50_2_10 [(2, .int (l2_640 + 1)), (1, .int l1_1), (0, .ref 49)] [] (by rfl) ?_
                      exact ih640 _ _ _ _ _ hJ755 (oz1025 c639 w740 kn8) (oz14 p640_1 s756 kn1) (kj_meas (oz475 s756 kn1) (oz476 c644 kn8) hm640)
                  exact (oz1143_m w740 w750).elim
              by_cases w759 : l1_1.toInt = 6
              ·
                refine ft_alx mi_k71 (pc := 21) (v := 6) (p := 80) (z := 87) (kj_eq w759 (by decide) : l1_1 = 6) (by decide +kernel) (by decide +kernel) ?_
                refine fo_goS mi_k71 fz71_22_3_25 [.int l2_640, .int l1_1, .int l2_640, .ref 87] rfl ?_
                refine ft_ifS mi_k71 (l1_1 == l2_640) 46 28 [.int l2_640, .ref 87] rfl (fun c => ?_) (fun c => ?_)
                ·
                  have c760 : l1_1.toInt = l2_640.toInt := kd_eq c; clear c
                  first | refine fo_goS mi_k71 fz71_43_1_49 [.int 1000, .int l2_640, .ref 87] (by rfl) ?_ | refine fo_goS mi_k71 fz71_46_1_49 [.int 1000, .int l2_640, .ref 87] (by rfl) ?_
                  refine ko_iast3 mi_k71.1 (n := 8) (c := 8) (ax := (0, 0, 0, 0, 0)) (mi_k71.2 _ _ (by rfl)) (by rfl) (ksG87 _ _ _ _) (ksA87 _ _ _ _) (hL640.I.2.1 87) rfl (oz1164_m c760 w759) (oz936 c644 kn8) ?_
                  intro a761 ea761 fa761
                  have hJ761 := kG_a3 hL640 87 rfl ea761 fa761 (kd_bd _)
                  have s762 : (l2_640 + 1).toInt = l2_640.toInt + (1 : Int32).toInt := kd_add (oz1165_m c760 w759 kn1) (oz474 c644 kn8 kn1)
                  first | refine fo_goL mi_k71 fz71_8_2_10 [(2, .int (l2_640 + 1)), (1, .int l1_1), (0, .ref 49)] [] (by rfl) ?_ | refine fo_goL mi_k71 fz71_50_2_10 [(2, .int (l2_640 + 1)), (1, .int l1_1), (0, .ref 49)] [] (by rfl) ?_
                  exact ih640 _ _ _ _ _ hJ761 (oz1026 c639 w759 kn8) (oz1166_m c760 s762 w759 kn1) (kj_meas (oz475 s762 kn1) (oz476 c644 kn8) hm640)
                ·
                  have c763 : l1_1.toInt ≠ l2_640.toInt := kd_eqF c; clear c
                  refine fo_goS mi_k71 fz71_28_4_36 [.int l1_1, .ref 64, .int l2_640, .ref 87] rfl ?_
                  by_cases w770 : l1_1.toInt = 6
                  ·
                    refine ft_alx mi_k71 (pc := 36) (v := 6) (p := 64) (z := 71) (kj_eq w770 (by decide) : l1_1 = 6) (by decide +kernel) (by decide +kernel) ?_
                    refine fo_goS mi_k71 fz71_37_1_38 [.int l2_640, .ref 71, .int l2_640, .ref 87] rfl ?_
                    refine ko_iald3 mi_k71.1 (n := 8) (c := 8) (ax := (0, 0, 0, 0, 0)) (mi_k71.2 _ _ (by rfl)) (by rfl) (ksG71 _ _ _ _) (hL640.I.2.1 71) rfl (oz3 p640_1) (oz936 c644 kn8) ?_
                    refine ft_ifS mi_k71 (decide (((a640 71).getD l2_640.toNatClampNeg 0) ≤ 0)) 46 42 [.int l2_640, .ref 87] rfl (fun c => ?_) (fun c => ?_)
                    ·
                      have c771 : ((a640 71).getD l2_640.toNatClampNeg 0).toInt ≤ (0 : Int32).toInt := kd_le c; clear c
                      first | refine fo_goS mi_k71 fz71_43_1_49 [.int 1000, .int l2_640, .ref 87] (by rfl) ?_ | refine fo_goS mi_k71 fz71_46_1_49 [.int 1000, .int l2_640, .ref 87] (by rfl) ?_
                      refine ko_iast3 mi_k71.1 (n := 8) (c := 8) (ax := (0, 0, 0, 0, 0)) (mi_k71.2 _ _ (by rfl)) (by rfl) (ksG87 _ _ _ _) (ksA87 _ _ _ _) (hL640.I.2.1 87) rfl (oz3 p640_1) (oz936 c644 kn8) ?_
                      intro a772 ea772 fa772
                      have hJ772 := kG_a3 hL640 87 rfl ea772 fa772 (kd_bd _)
                      have s773 : (l2_640 + 1).toInt = l2_640.toInt + (1 : Int32).toInt := kd_add (oz12 p640_1 kn1) (oz474 c644 kn8 kn1)
                      first | refine fo_goL mi_k71 fz71_8_2_10 [(2, .int (l2_640 + 1)), (1, .int l1_1), (0, .ref 49)] [] (by rfl) ?_ | refine fo_goL mi_k71 fz71_50_2_10 [(2, .int (l2_640 + 1)), (1, .int l1_1), (0, .ref 49)] [] (by rfl) ?_
                      exact ih640 _ _ _ _ _ hJ772 (oz1026 c639 w759 kn8) (oz14 p640_1 s773 kn1) (kj_meas (oz475 s773 kn1) (oz476 c644 kn8) hm640)
                    ·
                      have c774 : (0 : Int32).toInt < ((a640 71).getD l2_640.toNatClampNeg 0).toInt := kd_leF c; clear c
                      first | refine fo_goS mi_k71 fz71_42_2_49 [.int 1, .int l2_640, .ref 87] (by rfl) ?_ | refine fo_goS mi_k71 fz71_39_2_49 [.int 1, .int l2_640, .ref 87] (by rfl) ?_ | refine ft_goS mi_k71 2 49 [.int 1, .int l2_640, .ref 87] (by rfl) ?_ | refine ft_go mi_k71 2 49 [(2, .int l2_640), (1, .int l1_1), (0, .ref 49)] [.int 1, .int l2_640, .ref 87] i640 a640 q640 r640 (by rfl) ?_ | refine ko_steps mi_in71 2 _ (49, [(2, .int l2_640), (1, .int l1_1), (0, .ref 49)], [.int 1, .int l2_640, .ref 87], (0, 0), ks i640 a640 q640 r640) (by rfl) ?_
                      refine ko_iast3 mi_k71.1 (n := 8) (c := 8) (ax := (0, 0, 0, 0, 0)) (mi_k71.2 _ _ (by rfl)) (by rfl) (ksG87 _ _ _ _) (ksA87 _ _ _ _) (hL640.I.2.1 87) rfl (oz3 p640_1) (oz936 c644 kn8) ?_
                      intro a775 ea775 fa775
                      have hJ775 := kG_a3 hL640 87 rfl ea775 fa775 (kd_bd _)
                      have s776 : (l2_640 + 1).toInt = l2_640.toInt + (1 : Int32).toInt := kd_add (oz12 p640_1 kn1) (oz474 c644 kn8 kn1)
                      first | refine fo_goL mi_k71 fz71_8_2_10 [(2, .int (l2_640 + 1)), (1, .int l1_1), (0, .ref 49)] [] (by rfl) ?_ | refine fo_goL mi_k71 fz71_50_2_10 [(2, .int (l2_640 + 1)), (1, .int l1_1), (0, .ref 49)] [] (by rfl) ?_
                      exact ih640 _ _ _ _ _ hJ775 (oz1026 c639 w759 kn8) (oz14 p640_1 s776 kn1) (kj_meas (oz475 s776 kn1) (oz476 c644 kn8) hm640)
                  exact (oz1145_m w759 w770).elim
              by_cases w778 : l1_1.toInt = 7
              ·
                refine ft_alx mi_k71 (pc := 21) (v := 7) (p := 80) (z := 88) (kj_eq w778 (by decide) : l1_1 = 7) (by decide +kernel) (by decide +kernel) ?_
                refine fo_goS mi_k71 fz71_22_3_25 [.int l2_640, .int l1_1, .int l2_640, .ref 88] rfl ?_
                refine ft_ifS mi_k71 (l1_1 == l2_640) 46 28 [.int l2_640, .ref 88] rfl (fun c => ?_) (fun c => ?_)
                ·
                  have c779 : l1_1.toInt = l2_640.toInt := kd_eq c; clear c
                  first | refine fo_goS mi_k71 fz71_43_1_49 [.int 1000, .int l2_640, .ref 88] (by rfl) ?_ | refine fo_goS mi_k71 fz71_46_1_49 [.int 1000, .int l2_640, .ref 88] (by rfl) ?_
                  refine ko_iast3 mi_k71.1 (n := 8) (c := 8) (ax := (0, 0, 0, 0, 0)) (mi_k71.2 _ _ (by rfl)) (by rfl) (ksG88 _ _ _ _) (ksA88 _ _ _ _) (hL640.I.2.1 88) rfl (oz1167_m c779 w778) (oz936 c644 kn8) ?_
                  intro a780 ea780 fa780
                  have hJ780 := kG_a3 hL640 88 rfl ea780 fa780 (kd_bd _)
                  have s781 : (l2_640 + 1).toInt = l2_640.toInt + (1 : Int32).toInt := kd_add (oz1168_m c779 w778 kn1) (oz474 c644 kn8 kn1)
                  first | refine fo_goL mi_k71 fz71_8_2_10 [(2, .int (l2_640 + 1)), (1, .int l1_1), (0, .ref 49)] [] (by rfl) ?_ | refine fo_goL mi_k71 fz71_50_2_10 [(2, .int (l2_640 + 1)), (1, .int l1_1), (0, .ref 49)] [] (by rfl) ?_
                  exact ih640 _ _ _ _ _ hJ780 (oz1027 c639 w778 kn8) (oz1169_m c779 s781 w778 kn1) (kj_meas (oz475 s781 kn1) (oz476 c644 kn8) hm640)
                ·
                  have c782 : l1_1.toInt ≠ l2_640.toInt := kd_eqF c; clear c
                  refine fo_goS mi_k71 fz71_28_4_36 [.int l1_1, .ref 64, .int l2_640, .ref 88] rfl ?_
                  by_cases w790 : l1_1.toInt = 7
                  ·
                    refine ft_alx mi_k71 (pc := 36) (v := 7) (p := 64) (z := 72) (kj_eq w790 (by decide) : l1_1 = 7) (by decide +kernel) (by decide +kernel) ?_
                    refine fo_goS mi_k71 fz71_37_1_38 [.int l2_640, .ref 72, .int l2_640, .ref 88] rfl ?_
                    refine ko_iald3 mi_k71.1 (n := 8) (c := 8) (ax := (0, 0, 0, 0, 0)) (mi_k71.2 _ _ (by rfl)) (by rfl) (ksG72 _ _ _ _) (hL640.I.2.1 72) rfl (oz3 p640_1) (oz936 c644 kn8) ?_
                    refine ft_ifS mi_k71 (decide (((a640 72).getD l2_640.toNatClampNeg 0) ≤ 0)) 46 42 [.int l2_640, .ref 88] rfl (fun c => ?_) (fun c => ?_)
                    ·
                      have c791 : ((a640 72).getD l2_640.toNatClampNeg 0).toInt ≤ (0 : Int32).toInt := kd_le c; clear c
                      first | refine fo_goS mi_k71 fz71_43_1_49 [.int 1000, .int l2_640, .ref 88] (by rfl) ?_ | refine fo_goS mi_k71 fz71_46_1_49 [.int 1000, .int l2_640, .ref 88] (by rfl) ?_
                      refine ko_iast3 mi_k71.1 (n := 8) (c := 8) (ax := (0, 0, 0, 0, 0)) (mi_k71.2 _ _ (by rfl)) (by rfl) (ksG88 _ _ _ _) (ksA88 _ _ _ _) (hL640.I.2.1 88) rfl (oz3 p640_1) (oz936 c644 kn8) ?_
                      intro a792 ea792 fa792
                      have hJ792 := kG_a3 hL640 88 rfl ea792 fa792 (kd_bd _)
                      have s793 : (l2_640 + 1).toInt = l2_640.toInt + (1 : Int32).toInt := kd_add (oz12 p640_1 kn1) (oz474 c644 kn8 kn1)
                      first | refine fo_goL mi_k71 fz71_8_2_10 [(2, .int (l2_640 + 1)), (1, .int l1_1), (0, .ref 49)] [] (by rfl) ?_ | refine fo_goL mi_k71 fz71_50_2_10 [(2, .int (l2_640 + 1)), (1, .int l1_1), (0, .ref 49)] [] (by rfl) ?_
                      exact ih640 _ _ _ _ _ hJ792 (oz1027 c639 w778 kn8) (oz14 p640_1 s793 kn1) (kj_meas (oz475 s793 kn1) (oz476 c644 kn8) hm640)
                    ·
                      have c794 : (0 : Int32).toInt < ((a640 72).getD l2_640.toNatClampNeg 0).toInt := kd_leF c; clear c
                      first | refine fo_goS mi_k71 fz71_42_2_49 [.int 1, .int l2_640, .ref 88] (by rfl) ?_ | refine fo_goS mi_k71 fz71_39_2_49 [.int 1, .int l2_640, .ref 88] (by rfl) ?_ | refine ft_goS mi_k71 2 49 [.int 1, .int l2_640, .ref 88] (by rfl) ?_ | refine ft_go mi_k71 2 49 [(2, .int l2_640), (1, .int l1_1), (0, .ref 49)] [.int 1, .int l2_640, .ref 88] i640 a640 q640 r640 (by rfl) ?_ | refine ko_steps mi_in71 2 _ (49, [(2, .int l2_640), (1, .int l1_1), (0, .ref 49)], [.int 1, .int l2_640, .ref 88], (0, 0), ks i640 a640 q640 r640) (by rfl) ?_
                      refine ko_iast3 mi_k71.1 (n := 8) (c := 8) (ax := (0, 0, 0, 0, 0)) (mi_k71.2 _ _ (by rfl)) (by rfl) (ksG88 _ _ _ _) (ksA88 _ _ _ _) (hL640.I.2.1 88) rfl (oz3 p640_1) (oz936 c644 kn8) ?_
                      intro a795 ea795 fa795
                      have hJ795 := kG_a3 hL640 88 rfl ea795 fa795 (kd_bd _)
                      have s796 : (l2_640 + 1).toInt = l2_640.toInt + (1 : Int32).toInt := kd_add (oz12 p640_1 kn1) (oz474 c644 kn8 kn1)
                      first | refine fo_goL mi_k71 fz71_8_2_10 [(2, .int (l2_640 + 1)), (1, .int l1_1), (0, .ref 49)] [] (by rfl) ?_ | refine fo_goL mi_k71 fz71_50_2_10 [(2, .int (l2_640 + 1)), (1, .int l1_1), (0, .ref 49)] [] (by rfl) ?_
                      exact ih640 _ _ _ _ _ hJ795 (oz1027 c639 w778 kn8) (oz14 p640_1 s796 kn1) (kj_meas (oz475 s796 kn1) (oz476 c644 kn8) hm640)
                  exact (oz1147_m c639 w778 w790 kn8).elim
              exact (oz1028 c639 p1_0 w645 w664 w683 w702 w721 w740 w759 w778 kn8).elim
        exact lp640 _ _ _ _ _ _ (kG_self _ hL1.I hL1.R) (oz488 c639 p1_0 kn8) (oz46 kn0) (Nat.lt_succ_self _)
  exact lp1 _ _ _ _ _ _ (kG_self _ hG.I hG.R) (oz46 kn0) (Nat.lt_succ_self _)

