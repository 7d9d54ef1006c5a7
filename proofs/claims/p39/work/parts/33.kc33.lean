theorem oz1044 {a0 a1 a2 a3 : Int} (h0 : a0 < a1) (h1 : a2 = a0 + a3) (h2 : a1 = 5) (h3 : a3 = 1) : a2 ≤ 5 := by omega
theorem oz1047 {a0 a1 a2 : Int} (h0 : a0 ≤ 5) (h1 : a1 = a0 - a2) (h2 : a2 = 1) : a1 ≤ 5 := by omega
theorem oz1048 {a0 a1 a2 : Int} (h0 : a0 ≤ 5) (h1 : a1 = a0 - a2) (h2 : a2 = 1) : a2 + a1 ≤ 5 := by omega
theorem oz1049 {a0 a1 a2 a3 : Int} (h0 : a0 ≤ 5) (h1 : a1 = a0 - a2) (h2 : a2 = 1) (h3 : a3 = 0) : a3 + a1 ≤ 5 := by omega
theorem oz1051 {a0 a1 : Int} (h0 : a0 ≤ 8) (h1 : ¬ (a1 = 0)) (h2 : ¬ (a1 = 1)) (h3 : ¬ (a1 = 2)) (h4 : ¬ (a1 = 3)) (h5 : ¬ (a1 = 4)) (h6 : ¬ (a1 = 5)) (h7 : ¬ (a1 = 6)) (h8 : ¬ (a1 = 7)) (h9 : (0 : Int) ≤ a1) (h10 : a1 < a0) : False := by omega
theorem oz1052 {a0 a1 a2 : Int} (h0 : a0 ≠ a1) (h1 : ¬ (a0 = 1)) (h2 : ¬ (a0 = 2)) (h3 : ¬ (a0 = 0)) (h4 : a2 ≤ a0) (h5 : a0 ≤ a1) (h6 : a1 = 3) (h7 : a2 = 0) : False := by omega
theorem oz1053 {a0 a1 : Int} (h0 : a0 = a1) (h1 : a1 = 3) : ¬ (a0 = 0) := by omega
theorem oz1054 {a0 a1 : Int} (h0 : a0 = a1) (h1 : a1 = 3) : ¬ (a0 = 1) := by omega
theorem oz1055 {a0 a1 : Int} (h0 : a0 = a1) (h1 : a1 = 3) : ¬ (a0 = 2) := by omega
theorem oz1056 {a0 a1 : Int} (h0 : a0 < a1) (h1 : a1 ≤ 20) : a0 < 20 := by omega
theorem oz1057 {a0 a1 a2 : Int} (h0 : a0 < a1) (h1 : a1 ≤ 20) (h2 : a2 = 1) : a0 + a2 ≤ 2147483647 := by omega
theorem oz1058 {a0 a1 : Int} (h0 : a0 ≤ a1) (h1 : a1 = 20) : a0 ≤ 20 := by omega
theorem oz1059 {a0 a1 a2 : Int} (h0 : a0 ≤ a1) (h1 : a1 ≤ 20) (h2 : a2 = 1) : a0 + a2 ≤ 2147483647 := by omega
theorem oz1060 {a0 a1 a2 a3 : Int} (h0 : a0 < a1) (h1 : a2 ≤ a3) (h2 : a1 = 20) (h3 : a2 = 0) : a0 - a3 ≤ 2147483647 := by omega
theorem oz1061 {a0 a1 a2 : Int} (h0 : a0 ≤ a1) (h1 : a2 = a1 - a0) : (0 : Int) ≤ a2 := by omega
theorem oz1062 {a0 a1 a2 : Int} (h0 : a0 ≤ 20) (h1 : a1 = a0 - a2) : a2 + a1 ≤ 20 := by omega
theorem oz1063 {a0 a1 a2 a3 a4 a5 : Int} (h0 : a0 < a1) (h1 : a2 = a3 + a4) (h2 : a5 = a0 - a3) (h3 : a1 = 20) (h4 : a4 = 1) : a2 + a5 ≤ 20 := by omega
theorem oz1064 {a0 a1 a2 : Int} (h0 : a0 < a1) (h1 : a2 ≤ a0) (h2 : a1 = 20) : a2 < 20 := by omega
theorem oz1065 {a0 : Int} (h0 : a0 ≤ 19) : a0 < 20 := by omega
theorem oz1066 {a0 a1 : Int} (h0 : a0 < a1) (h1 : a1 ≤ 20) (h2 : (0 : Int) ≤ a0) : ((0 : Int) ≤ a0) ∧ (a0 ≤ 19) := by omega
theorem oz1067 {a0 a1 a2 a3 : Int} (h0 : a0 < a1) (h1 : a1 ≤ 20) (h2 : (0 : Int) ≤ a2) (h3 : a0 = a2 + a3) (h4 : a3 = 1) : ((0 : Int) ≤ a0) ∧ (a0 ≤ 19) := by omega
theorem oz1068 {a0 a1 a2 a3 a4 a5 : Int} (h0 : a0 = a1) (h1 : a1 = a2) (h2 : a3 = a4 + a5) (h3 : a5 = 1) : (a0 - a3) < (a2 - a4) := by omega
theorem oz1069 {a0 a1 a2 a3 : Int} (h0 : a0 ≤ a1) (h1 : a1 < a2) (h2 : a3 ≤ a0) (h3 : a2 = 20) (h4 : a3 = 0) : ((0 : Int) ≤ a0) ∧ (a0 ≤ 19) := by omega
theorem oz1070 {a0 a1 a2 a3 : Int} (h0 : a0 < a1) (h1 : a1 ≤ 20) (h2 : (0 : Int) ≤ a2) (h3 : a0 = a2 + a3) (h4 : a3 = 1) : ((0 : Int) ≤ a2) ∧ (a2 ≤ 19) := by omega
theorem oz1071 {a0 a1 a2 a3 : Int} (h0 : a0 < a1) (h1 : a1 ≤ 20) (h2 : (0 : Int) ≤ a2) (h3 : a0 = a2 + a3) (h4 : a3 = 1) : ((0 : Int) ≤ a0) ∧ (a0 ≤ 20) := by omega
theorem oz1072 {a0 a1 : Int} (h0 : (0 : Int) ≤ a0) (h1 : a1 = 2) : (-2147483648 : Int) ≤ a0 - a1 := by omega
theorem oz1073 {a0 a1 : Int} (h0 : a0 ≤ 20) (h1 : a1 = 2) : a0 - a1 ≤ 2147483647 := by omega
theorem oz1074 {a0 a1 : Int} (h0 : a0 < a1) (h1 : a1 ≤ a0) (h2 : a1 = 0) : False := by omega
theorem oz1075 {a0 a1 : Int} (h0 : a0 ≤ 20) (h1 : a1 ≤ (a0 - 2)) : a1 < 20 := by omega
theorem oz1076 {a0 a1 a2 : Int} (h0 : a0 ≤ 20) (h1 : a1 ≤ (a0 - 2)) (h2 : a2 = 1) : a1 + a2 ≤ 2147483647 := by omega
theorem oz1077 {a0 a1 a2 a3 : Int} (h0 : a0 ≤ 20) (h1 : a1 ≤ (a0 - 2)) (h2 : a2 = a1 + a3) (h3 : a3 = 1) : a2 < 20 := by omega
theorem oz1078 {a0 a1 : Int} (h0 : a0 ≤ 20) (h1 : a1 = 1) : a0 - a1 ≤ 2147483647 := by omega
theorem oz1079 {a0 a1 a2 : Int} (h0 : a0 ≤ a1) (h1 : a2 ≤ 20) (h2 : a1 ≤ (a2 - 2)) (h3 : a0 = 0) : ((0 : Int) ≤ a1) ∧ (a1 ≤ 19) := by omega
theorem oz1080 {a0 a1 a2 a3 : Int} (h0 : a0 ≤ a1) (h1 : a2 ≤ a1) (h2 : a3 ≤ 20) (h3 : a1 ≤ a0) (h4 : a1 ≤ (a3 - 2)) (h5 : a2 = 0) : ((0 : Int) ≤ a0) ∧ (a0 ≤ 19) := by omega
theorem oz1081 {a0 a1 a2 : Int} (h0 : a0 < a1) (h1 : a2 ≤ 20) (h2 : (1 : Int) ≤ a0) (h3 : a1 ≤ (a2 - 1)) : ((0 : Int) ≤ a0) ∧ (a0 ≤ 19) := by omega
theorem oz1082 {a0 a1 a2 : Int} (h0 : a0 < a1) (h1 : a2 ≤ 20) (h2 : (1 : Int) ≤ a0) (h3 : a1 ≤ (a2 - 1)) : ((0 : Int) ≤ a1) ∧ (a1 ≤ 19) := by omega
theorem oz1083 {a0 a1 a2 : Int} (h0 : a0 < a1) (h1 : (1 : Int) ≤ a0) (h2 : a2 = (-1)) : (-2147483648 : Int) ≤ a1 + a2 := by omega
theorem oz1084 {a0 a1 a2 : Int} (h0 : a0 ≤ 20) (h1 : a1 ≤ (a0 - 1)) (h2 : a2 = (-1)) : a1 + a2 ≤ 2147483647 := by omega
theorem oz1085 {a0 a1 a2 a3 : Int} (h0 : a0 < a1) (h1 : a2 ≤ 20) (h2 : a1 ≤ (a2 - 1)) (h3 : a3 = 1) : a0 + a3 ≤ 2147483647 := by omega
theorem oz1086 {a0 a1 a2 a3 a4 : Int} (h0 : a0 = a1) (h1 : a2 ≤ (a1 - 1)) (h2 : a3 = a2 + a4) (h3 : a4 = (-1)) : a3 ≤ (a0 - 1) := by omega
theorem oz1087 {a0 a1 a2 a3 a4 a5 : Int} (h0 : a0 = a1 + a2) (h1 : a3 = a4 + a5) (h2 : a2 = (-1)) (h3 : a5 = 1) : (a0 - a3) < (a1 - a4) := by omega
theorem oz1088 {a0 a1 a2 a3 : Int} (h0 : a0 ≤ a1) (h1 : a2 = a1 + a3) (h2 : a0 = 0) (h3 : a3 = 1) : (1 : Int) ≤ a2 := by omega
theorem oz1089 {a0 a1 a2 : Int} (h0 : a0 < a1) (h1 : a2 ≤ a0) (h2 : a2 = 0) : (0 : Int) ≤ a1 := by omega
theorem oz1090 {a0 a1 : Int} (h0 : a0 ≤ 20) (h1 : a1 ≤ (a0 - 1)) : a1 < 20 := by omega
theorem oz1091 {a0 a1 a2 a3 : Int} (h0 : a0 < a1) (h1 : a2 ≤ a0) (h2 : a3 ≤ 20) (h3 : a1 ≤ (a3 - 1)) (h4 : a2 = 0) : ((0 : Int) ≤ a1) ∧ (a1 ≤ 19) := by omega
theorem oz1092 {a0 a1 a2 a3 : Int} (h0 : a0 < a1) (h1 : a2 ≤ a0) (h2 : a2 = 0) (h3 : a3 = (-1)) : (-2147483648 : Int) ≤ a1 + a3 := by omega
theorem oz1093 {a0 a1 a2 a3 a4 : Int} (h0 : a0 < a1) (h1 : a2 ≤ a0) (h2 : a3 = a1 + a4) (h3 : a2 = 0) (h4 : a4 = (-1)) : ((0 : Int) ≤ a0) ∧ (a0 ≤ a3) := by omega
theorem oz1094 {a0 a1 a2 a3 a4 : Int} (h0 : a0 ≤ a1) (h1 : a1 ≤ (a2 - 2)) (h2 : a3 = a2 - a4) (h3 : a0 = 0) (h4 : a4 = 1) : ((0 : Int) ≤ a1) ∧ (a1 ≤ a3) := by omega
theorem oz1095 {a0 a1 a2 : Int} (h0 : a0 ≤ a1) (h1 : a0 = 0) (h2 : a2 = (-1)) : (-2147483648 : Int) ≤ a1 + a2 := by omega
theorem oz1096 {a0 a1 a2 : Int} (h0 : a0 ≤ 20) (h1 : a1 ≤ (a0 - 2)) (h2 : a2 = (-1)) : a1 + a2 ≤ 2147483647 := by omega
theorem oz1097 {a0 a1 a2 a3 : Int} (h0 : a0 ≤ (a1 - 2)) (h1 : a2 = a0 + a3) (h2 : a3 = (-1)) : a2 ≤ (a1 - 2) := by omega
theorem oz1098 {a0 a1 a2 : Int} (h0 : a0 = a1 - a2) (h1 : a2 = 2) : a0 ≤ (a1 - 2) := by omega
theorem oz1099 {a0 a1 : Int} (h0 : a0 = a1) (h1 : a1 ≤ 5) : a0 ≤ 5 := by omega
theorem oz1100 {a0 a1 a2 : Int} (h0 : a0 < a1) (h1 : a1 = 120) (h2 : a2 = 1) : a0 + a2 ≤ 2147483647 := by omega
theorem oz1101 {a0 a1 a2 : Int} (h0 : a0 = a1) (h1 : a2 = a0) (h2 : a1 ≤ 5) : a2 ≤ 5 := by omega
theorem oz1102 {a0 a1 a2 : Int} (h0 : a0 = a1 + a2) (h1 : a2 = 1) : (120 - a0) < (120 - a1) := by omega
theorem oz1103 {a0 a1 : Int} (h0 : a0 < a1) (h1 : a1 = 120) : (1 : Int) ≤ (120 - a0) := by omega
theorem oz1104 {a0 a1 : Int} (h0 : a0 ≤ 20) (h1 : a1 = 0) : a1 + a0 ≤ 20 := by omega
theorem oz1105 {a0 a1 a2 : Int} (h0 : a0 = a1) (h1 : a1 ≤ 5) (h2 : a2 = 0) : a2 + a0 ≤ 5 := by omega
theorem oz1110 {a0 : Int} (h0 : a0 = 0) : a0 ≤ 5 := by omega
theorem oz1111 {a0 a1 a2 a3 : Int} (h0 : a0 ≤ a1) (h1 : a2 = a1) (h2 : a3 = a2) (h3 : a0 = 5) : (0 : Int) ≤ a3 := by omega
theorem oz1112 {a0 : Int} (h0 : a0 ≤ 5) : a0 < 20 := by omega
theorem oz1113 {a0 a1 a2 : Int} (h0 : a0 ≤ 5) (h1 : a1 = a0 + a2) (h2 : a2 = 1) : a1 ≤ 20 := by omega
theorem oz1114 {a0 a1 a2 : Int} (h0 : a0 < a1) (h1 : a1 ≤ a2) (h2 : a2 = 5) : a0 < 5 := by omega
theorem oz1116 {a0 a1 : Int} (h0 : a0 = (a1 % 10)) : (0 : Int) ≤ a0 := by omega
theorem oz1117 {a0 a1 a2 : Int} (h0 : a0 ≤ 8) (h1 : a1 = (a2 % 10)) (h2 : (a2 % 10) < a0) : a1 < 8 := by omega
theorem oz1118 {a0 a1 a2 : Int} (h0 : a0 ≤ 8) (h1 : a1 = (a2 / 10)) (h2 : ¬ (a1 = 1)) (h3 : ¬ (a1 = 2)) (h4 : ¬ (a1 = 3)) (h5 : ¬ (a1 = 4)) (h6 : ¬ (a1 = 5)) (h7 : ¬ (a1 = 6)) (h8 : ¬ (a1 = 7)) (h9 : ¬ (a1 = 0)) (h10 : (0 : Int) ≤ a2) (h11 : (a2 / 10) < a0) (h12 : (a2 % 10) < a0) : False := by omega
theorem oz1119 {a0 a1 : Int} (h0 : a0 < a1) (h1 : a1 ≤ 8) : a0 < 8 := by omega
theorem oz1120 {a0 a1 : Int} (h0 : a0 = 1) (h1 : a1 = 1) : (-2147483648 : Int) ≤ a0 + a1 := by omega
theorem oz1121 {a0 a1 a2 : Int} (h0 : a0 = a1 + a2) (h1 : a1 = 1) (h2 : a2 = 1) : (0 : Int) ≤ a0 := by omega
theorem oz1122 {a0 a1 : Int} (h0 : a0 = 2) (h1 : a1 = 1) : (-2147483648 : Int) ≤ a0 + a1 := by omega
theorem oz1123 {a0 a1 a2 : Int} (h0 : a0 = a1 + a2) (h1 : a1 = 2) (h2 : a2 = 1) : (0 : Int) ≤ a0 := by omega
theorem oz1124 {a0 a1 : Int} (h0 : a0 = 3) (h1 : a1 = 1) : (-2147483648 : Int) ≤ a0 + a1 := by omega
theorem oz1125 {a0 a1 a2 : Int} (h0 : a0 = a1 + a2) (h1 : a1 = 3) (h2 : a2 = 1) : (0 : Int) ≤ a0 := by omega
theorem oz1126 {a0 a1 : Int} (h0 : a0 = 4) (h1 : a1 = 1) : (-2147483648 : Int) ≤ a0 + a1 := by omega
theorem oz1127 {a0 a1 a2 : Int} (h0 : a0 = a1 + a2) (h1 : a1 = 4) (h2 : a2 = 1) : (0 : Int) ≤ a0 := by omega
theorem oz1128 {a0 a1 : Int} (h0 : a0 = 5) (h1 : a1 = 1) : (-2147483648 : Int) ≤ a0 + a1 := by omega
theorem oz1129 {a0 a1 a2 : Int} (h0 : a0 = a1 + a2) (h1 : a1 = 5) (h2 : a2 = 1) : (0 : Int) ≤ a0 := by omega
theorem oz1130 {a0 : Int} (h0 : a0 = 6) : (0 : Int) ≤ a0 := by omega
theorem oz1131 {a0 a1 : Int} (h0 : a0 = 6) (h1 : a1 = 1) : (-2147483648 : Int) ≤ a0 + a1 := by omega
theorem oz1132 {a0 a1 a2 : Int} (h0 : a0 = a1 + a2) (h1 : a1 = 6) (h2 : a2 = 1) : (0 : Int) ≤ a0 := by omega
theorem oz1133 {a0 : Int} (h0 : a0 = 7) : (0 : Int) ≤ a0 := by omega
theorem oz1134 {a0 a1 : Int} (h0 : a0 = 7) (h1 : a1 = 1) : (-2147483648 : Int) ≤ a0 + a1 := by omega
theorem oz1135 {a0 a1 a2 : Int} (h0 : a0 = a1 + a2) (h1 : a1 = 7) (h2 : a2 = 1) : (0 : Int) ≤ a0 := by omega
theorem oz1136 {a0 a1 : Int} (h0 : a0 < a1) (h1 : (0 : Int) ≤ a0) (h2 : ¬ (a0 = 6)) (h3 : ¬ (a0 = 7)) (h4 : ¬ (a0 = 0)) (h5 : ¬ (a0 = 1)) (h6 : ¬ (a0 = 2)) (h7 : ¬ (a0 = 3)) (h8 : ¬ (a0 = 4)) (h9 : ¬ (a0 = 5)) (h10 : a1 = 8) : False := by omega
theorem oz1137 {a0 : Int} (h0 : (0 : Int) ≤ a0) (h1 : a0 = 0) (h2 : ¬ (a0 = 0)) : False := by omega
theorem oz1143 {a0 : Int} (h0 : a0 = 5) (h1 : ¬ (a0 = 5)) : False := by omega
theorem oz1145 {a0 : Int} (h0 : a0 = 6) (h1 : ¬ (a0 = 6)) : False := by omega
theorem oz1147 {a0 a1 : Int} (h0 : a0 < a1) (h1 : a0 = 7) (h2 : ¬ (a0 = 7)) (h3 : a1 = 8) : False := by omega
theorem oz1148 {a0 a1 : Int} (h0 : a0 < a1) (h1 : (0 : Int) ≤ a0) (h2 : ¬ (a0 = 1)) (h3 : ¬ (a0 = 2)) (h4 : ¬ (a0 = 3)) (h5 : ¬ (a0 = 4)) (h6 : ¬ (a0 = 5)) (h7 : ¬ (a0 = 6)) (h8 : ¬ (a0 = 0)) (h9 : ¬ (a0 = 7)) (h10 : a1 = 8) : False := by omega
theorem oz1149 {a0 a1 : Int} (h0 : a0 = a1) (h1 : a0 = 1) : (0 : Int) ≤ a1 := by omega
theorem oz1150 {a0 a1 a2 : Int} (h0 : a0 = a1) (h1 : a0 = 1) (h2 : a2 = 1) : (-2147483648 : Int) ≤ a1 + a2 := by omega
theorem oz1151 {a0 a1 a2 a3 : Int} (h0 : a0 = a1) (h1 : a2 = a1 + a3) (h2 : a0 = 1) (h3 : a3 = 1) : (0 : Int) ≤ a2 := by omega
theorem oz1152 {a0 a1 : Int} (h0 : a0 = a1) (h1 : a0 = 2) : (0 : Int) ≤ a1 := by omega
theorem oz1153 {a0 a1 a2 : Int} (h0 : a0 = a1) (h1 : a0 = 2) (h2 : a2 = 1) : (-2147483648 : Int) ≤ a1 + a2 := by omega
theorem oz1154 {a0 a1 a2 a3 : Int} (h0 : a0 = a1) (h1 : a2 = a1 + a3) (h2 : a0 = 2) (h3 : a3 = 1) : (0 : Int) ≤ a2 := by omega
theorem oz1155 {a0 a1 : Int} (h0 : a0 = a1) (h1 : a0 = 3) : (0 : Int) ≤ a1 := by omega
theorem oz1156 {a0 a1 a2 : Int} (h0 : a0 = a1) (h1 : a0 = 3) (h2 : a2 = 1) : (-2147483648 : Int) ≤ a1 + a2 := by omega
theorem oz1157 {a0 a1 a2 a3 : Int} (h0 : a0 = a1) (h1 : a2 = a1 + a3) (h2 : a0 = 3) (h3 : a3 = 1) : (0 : Int) ≤ a2 := by omega
theorem oz1158 {a0 a1 : Int} (h0 : a0 = a1) (h1 : a0 = 4) : (0 : Int) ≤ a1 := by omega
theorem oz1159 {a0 a1 a2 : Int} (h0 : a0 = a1) (h1 : a0 = 4) (h2 : a2 = 1) : (-2147483648 : Int) ≤ a1 + a2 := by omega
theorem oz1160 {a0 a1 a2 a3 : Int} (h0 : a0 = a1) (h1 : a2 = a1 + a3) (h2 : a0 = 4) (h3 : a3 = 1) : (0 : Int) ≤ a2 := by omega
theorem oz1161 {a0 a1 : Int} (h0 : a0 = a1) (h1 : a0 = 5) : (0 : Int) ≤ a1 := by omega
theorem oz1162 {a0 a1 a2 : Int} (h0 : a0 = a1) (h1 : a0 = 5) (h2 : a2 = 1) : (-2147483648 : Int) ≤ a1 + a2 := by omega
theorem oz1163 {a0 a1 a2 a3 : Int} (h0 : a0 = a1) (h1 : a2 = a1 + a3) (h2 : a0 = 5) (h3 : a3 = 1) : (0 : Int) ≤ a2 := by omega
theorem oz1164 {a0 a1 : Int} (h0 : a0 = a1) (h1 : a0 = 6) : (0 : Int) ≤ a1 := by omega
theorem oz1165 {a0 a1 a2 : Int} (h0 : a0 = a1) (h1 : a0 = 6) (h2 : a2 = 1) : (-2147483648 : Int) ≤ a1 + a2 := by omega
theorem oz1166 {a0 a1 a2 a3 : Int} (h0 : a0 = a1) (h1 : a2 = a1 + a3) (h2 : a0 = 6) (h3 : a3 = 1) : (0 : Int) ≤ a2 := by omega
theorem oz1167 {a0 a1 : Int} (h0 : a0 = a1) (h1 : a0 = 7) : (0 : Int) ≤ a1 := by omega
theorem oz1168 {a0 a1 a2 : Int} (h0 : a0 = a1) (h1 : a0 = 7) (h2 : a2 = 1) : (-2147483648 : Int) ≤ a1 + a2 := by omega
theorem oz1169 {a0 a1 a2 a3 : Int} (h0 : a0 = a1) (h1 : a2 = a1 + a3) (h2 : a0 = 7) (h3 : a3 = 1) : (0 : Int) ≤ a2 := by omega
def w1_56 : kW := ([3586], [57, 58], [], [])
