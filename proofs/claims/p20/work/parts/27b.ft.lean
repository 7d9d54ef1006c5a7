theorem mi_pq1 : mi_prog[1]? = some (mi_h1, mi_c1) := by rfl
theorem mi_k1 : ft_M (mi_h1, mi_c1) ft_1 := ft_mk mi_in1 (by rfl) (by decide +kernel)
theorem mi_pq2 : mi_prog[2]? = some (mi_h2, mi_c2) := by rfl
theorem mi_k2 : ft_M (mi_h2, mi_c2) ft_2 := ft_mk mi_in2 (by rfl) (by decide +kernel)
theorem mi_pq3 : mi_prog[3]? = some (mi_h3, mi_c3) := by rfl
theorem mi_k3 : ft_M (mi_h3, mi_c3) ft_3 := ft_mk mi_in3 (by rfl) (by decide +kernel)
theorem mi_pq5 : mi_prog[5]? = some (mi_h5, mi_c5) := by rfl
theorem mi_k5 : ft_M (mi_h5, mi_c5) ft_5 := ft_mk mi_in5 (by rfl) (by decide +kernel)
theorem mi_pq6 : mi_prog[6]? = some (mi_h6, mi_c6) := by rfl
theorem mi_k6 : ft_M (mi_h6, mi_c6) ft_6 := ft_mk mi_in6 (by rfl) (by decide +kernel)
theorem mi_pq8 : mi_prog[8]? = some (mi_h8, mi_c8) := by rfl
theorem mi_k8 : ft_M (mi_h8, mi_c8) ft_8 := ft_mk mi_in8 (by rfl) (by decide +kernel)
theorem mi_pq9 : mi_prog[9]? = some (mi_h9, mi_c9) := by rfl
theorem mi_k9 : ft_M (mi_h9, mi_c9) ft_9 := ft_mk mi_in9 (by rfl) (by decide +kernel)
theorem mi_pq10 : mi_prog[10]? = some (mi_h10, mi_c10) := by rfl
theorem mi_k10 : ft_M (mi_h10, mi_c10) ft_10 := ft_mk mi_in10 (by rfl) (by decide +kernel)
theorem mi_pq11 : mi_prog[11]? = some (mi_h11, mi_c11) := by rfl
theorem mi_k11 : ft_M (mi_h11, mi_c11) ft_11 := ft_mk mi_in11 (by rfl) (by decide +kernel)
theorem mi_pq12 : mi_prog[12]? = some (mi_h12, mi_c12) := by rfl
theorem mi_k12 : ft_M (mi_h12, mi_c12) ft_12 := ft_mk mi_in12 (by rfl) (by decide +kernel)
theorem mi_pq13 : mi_prog[13]? = some (mi_h13, mi_c13) := by rfl
theorem mi_k13 : ft_M (mi_h13, mi_c13) ft_13 := ft_mk mi_in13 (by rfl) (by decide +kernel)
theorem mi_pq14 : mi_prog[14]? = some (mi_h14, mi_c14) := by rfl
theorem mi_k14 : ft_M (mi_h14, mi_c14) ft_14 := ft_mk mi_in14 (by rfl) (by decide +kernel)
theorem mi_pq16 : mi_prog[16]? = some (mi_h16, mi_c16) := by rfl
theorem mi_k16 : ft_M (mi_h16, mi_c16) ft_16 := ft_mk mi_in16 (by rfl) (by decide +kernel)
theorem mi_pq17 : mi_prog[17]? = some (mi_h17, mi_c17) := by rfl
theorem mi_k17 : ft_M (mi_h17, mi_c17) ft_17 := ft_mk mi_in17 (by rfl) (by decide +kernel)
theorem mi_pq18 : mi_prog[18]? = some (mi_h18, mi_c18) := by rfl
theorem mi_k18 : ft_M (mi_h18, mi_c18) ft_18 := ft_mk mi_in18 (by rfl) (by decide +kernel)
theorem mi_pq19 : mi_prog[19]? = some (mi_h19, mi_c19) := by rfl
theorem mi_k19 : ft_M (mi_h19, mi_c19) ft_19 := ft_mk mi_in19 (by rfl) (by decide +kernel)
theorem mi_pq20 : mi_prog[20]? = some (mi_h20, mi_c20) := by rfl
theorem mi_k20 : ft_M (mi_h20, mi_c20) ft_20 := ft_mk mi_in20 (by rfl) (by decide +kernel)
theorem mi_pq21 : mi_prog[21]? = some (mi_h21, mi_c21) := by rfl
theorem mi_k21 : ft_M (mi_h21, mi_c21) ft_21 := ft_mk mi_in21 (by rfl) (by decide +kernel)
theorem mi_pq22 : mi_prog[22]? = some (mi_h22, mi_c22) := by rfl
theorem mi_k22 : ft_M (mi_h22, mi_c22) ft_22 := ft_mk mi_in22 (by rfl) (by decide +kernel)
theorem mi_pq24 : mi_prog[24]? = some (mi_h24, mi_c24) := by rfl
theorem mi_k24 : ft_M (mi_h24, mi_c24) ft_24 := ft_mk mi_in24 (by rfl) (by decide +kernel)
theorem mi_pq25 : mi_prog[25]? = some (mi_h25, mi_c25) := by rfl
theorem mi_k25 : ft_M (mi_h25, mi_c25) ft_25 := ft_mk mi_in25 (by rfl) (by decide +kernel)
theorem mi_pq26 : mi_prog[26]? = some (mi_h26, mi_c26) := by rfl
theorem mi_k26 : ft_M (mi_h26, mi_c26) ft_26 := ft_mk mi_in26 (by rfl) (by decide +kernel)
theorem mi_pq27 : mi_prog[27]? = some (mi_h27, mi_c27) := by rfl
theorem mi_k27 : ft_M (mi_h27, mi_c27) ft_27 := ft_mk mi_in27 (by rfl) (by decide +kernel)
theorem mi_pq28 : mi_prog[28]? = some (mi_h28, mi_c28) := by rfl
theorem mi_k28 : ft_M (mi_h28, mi_c28) ft_28 := ft_mk mi_in28 (by rfl) (by decide +kernel)
theorem mi_pq29 : mi_prog[29]? = some (mi_h29, mi_c29) := by rfl
theorem mi_k29 : ft_M (mi_h29, mi_c29) ft_29 := ft_mk mi_in29 (by rfl) (by decide +kernel)
theorem mi_pq30 : mi_prog[30]? = some (mi_h30, mi_c30) := by rfl
theorem mi_k30 : ft_M (mi_h30, mi_c30) ft_30 := ft_mk mi_in30 (by rfl) (by decide +kernel)
theorem mi_pq31 : mi_prog[31]? = some (mi_h31, mi_c31) := by rfl
theorem mi_k31 : ft_M (mi_h31, mi_c31) ft_31 := ft_mk mi_in31 (by rfl) (by decide +kernel)
theorem mi_pq32 : mi_prog[32]? = some (mi_h32, mi_c32) := by rfl
theorem mi_k32 : ft_M (mi_h32, mi_c32) ft_32 := ft_mk mi_in32 (by rfl) (by decide +kernel)
theorem mi_pq33 : mi_prog[33]? = some (mi_h33, mi_c33) := by rfl
theorem mi_k33 : ft_M (mi_h33, mi_c33) ft_33 := ft_mk mi_in33 (by rfl) (by decide +kernel)
theorem mi_pq34 : mi_prog[34]? = some (mi_h34, mi_c34) := by rfl
theorem mi_k34 : ft_M (mi_h34, mi_c34) ft_34 := ft_mk mi_in34 (by rfl) (by decide +kernel)
theorem mi_pq36 : mi_prog[36]? = some (mi_h36, mi_c36) := by rfl
theorem mi_k36 : ft_M (mi_h36, mi_c36) ft_36 := ft_mk mi_in36 (by rfl) (by decide +kernel)
theorem mi_pq37 : mi_prog[37]? = some (mi_h37, mi_c37) := by rfl
theorem mi_k37 : ft_M (mi_h37, mi_c37) ft_37 := ft_mk mi_in37 (by rfl) (by decide +kernel)
theorem mi_pq38 : mi_prog[38]? = some (mi_h38, mi_c38) := by rfl
theorem mi_k38 : ft_M (mi_h38, mi_c38) ft_38 := ft_mk mi_in38 (by rfl) (by decide +kernel)
theorem mi_pq39 : mi_prog[39]? = some (mi_h39, mi_c39) := by rfl
theorem mi_k39 : ft_M (mi_h39, mi_c39) ft_39 := ft_mk mi_in39 (by rfl) (by decide +kernel)
theorem mi_pq40 : mi_prog[40]? = some (mi_h40, mi_c40) := by rfl
theorem mi_k40 : ft_M (mi_h40, mi_c40) ft_40 := ft_mk mi_in40 (by rfl) (by decide +kernel)
theorem mi_pq42 : mi_prog[42]? = some (mi_h42, mi_c42) := by rfl
theorem mi_k42 : ft_M (mi_h42, mi_c42) ft_42 := ft_mk mi_in42 (by rfl) (by decide +kernel)
theorem mi_pq43 : mi_prog[43]? = some (mi_h43, mi_c43) := by rfl
theorem mi_k43 : ft_M (mi_h43, mi_c43) ft_43 := ft_mk mi_in43 (by rfl) (by decide +kernel)
theorem mi_pq44 : mi_prog[44]? = some (mi_h44, mi_c44) := by rfl
theorem mi_k44 : ft_M (mi_h44, mi_c44) ft_44 := ft_mk mi_in44 (by rfl) (by decide +kernel)
theorem mi_pq45 : mi_prog[45]? = some (mi_h45, mi_c45) := by rfl
theorem mi_k45 : ft_M (mi_h45, mi_c45) ft_45 := ft_mk mi_in45 (by rfl) (by decide +kernel)
theorem mi_pq46 : mi_prog[46]? = some (mi_h46, mi_c46) := by rfl
theorem mi_k46 : ft_M (mi_h46, mi_c46) ft_46 := ft_mk mi_in46 (by rfl) (by decide +kernel)
theorem mi_pq47 : mi_prog[47]? = some (mi_h47, mi_c47) := by rfl
theorem mi_k47 : ft_M (mi_h47, mi_c47) ft_47 := ft_mk mi_in47 (by rfl) (by decide +kernel)
theorem mi_pq48 : mi_prog[48]? = some (mi_h48, mi_c48) := by rfl
theorem mi_k48 : ft_M (mi_h48, mi_c48) ft_48 := ft_mk mi_in48 (by rfl) (by decide +kernel)
theorem mi_pq49 : mi_prog[49]? = some (mi_h49, mi_c49) := by rfl
theorem mi_k49 : ft_M (mi_h49, mi_c49) ft_49 := ft_mk mi_in49 (by rfl) (by decide +kernel)
theorem mi_pq50 : mi_prog[50]? = some (mi_h50, mi_c50) := by rfl
theorem mi_k50 : ft_M (mi_h50, mi_c50) ft_50 := ft_mk mi_in50 (by rfl) (by decide +kernel)
theorem mi_pq51 : mi_prog[51]? = some (mi_h51, mi_c51) := by rfl
theorem mi_k51 : ft_M (mi_h51, mi_c51) ft_51 := ft_mk mi_in51 (by rfl) (by decide +kernel)
theorem mi_pq52 : mi_prog[52]? = some (mi_h52, mi_c52) := by rfl
theorem mi_k52 : ft_M (mi_h52, mi_c52) ft_52 := ft_mk mi_in52 (by rfl) (by decide +kernel)
theorem mi_pq53 : mi_prog[53]? = some (mi_h53, mi_c53) := by rfl
theorem mi_k53 : ft_M (mi_h53, mi_c53) ft_53 := ft_mk mi_in53 (by rfl) (by decide +kernel)
theorem mi_pq54 : mi_prog[54]? = some (mi_h54, mi_c54) := by rfl
theorem mi_k54 : ft_M (mi_h54, mi_c54) ft_54 := ft_mk mi_in54 (by rfl) (by decide +kernel)
theorem mi_pq55 : mi_prog[55]? = some (mi_h55, mi_c55) := by rfl
theorem mi_k55 : ft_M (mi_h55, mi_c55) ft_55 := ft_mk mi_in55 (by rfl) (by decide +kernel)
theorem mi_pq56 : mi_prog[56]? = some (mi_h56, mi_c56) := by rfl
theorem mi_k56 : ft_M (mi_h56, mi_c56) ft_56 := ft_mk mi_in56 (by rfl) (by decide +kernel)
theorem mi_pq58 : mi_prog[58]? = some (mi_h58, mi_c58) := by rfl
theorem mi_k58 : ft_M (mi_h58, mi_c58) ft_58 := ft_mk mi_in58 (by rfl) (by decide +kernel)
theorem mi_pq59 : mi_prog[59]? = some (mi_h59, mi_c59) := by rfl
theorem mi_k59 : ft_M (mi_h59, mi_c59) ft_59 := ft_mk mi_in59 (by rfl) (by decide +kernel)
theorem mi_pq60 : mi_prog[60]? = some (mi_h60, mi_c60) := by rfl
theorem mi_k60 : ft_M (mi_h60, mi_c60) ft_60 := ft_mk mi_in60 (by rfl) (by decide +kernel)
theorem mi_pq61 : mi_prog[61]? = some (mi_h61, mi_c61) := by rfl
theorem mi_k61 : ft_M (mi_h61, mi_c61) ft_61 := ft_mk mi_in61 (by rfl) (by decide +kernel)
theorem mi_pq62 : mi_prog[62]? = some (mi_h62, mi_c62) := by rfl
theorem mi_k62 : ft_M (mi_h62, mi_c62) ft_62 := ft_mk mi_in62 (by rfl) (by decide +kernel)
theorem mi_pq63 : mi_prog[63]? = some (mi_h63, mi_c63) := by rfl
theorem mi_k63 : ft_M (mi_h63, mi_c63) ft_63 := ft_mk mi_in63 (by rfl) (by decide +kernel)
theorem mi_pq64 : mi_prog[64]? = some (mi_h64, mi_c64) := by rfl
theorem mi_k64 : ft_M (mi_h64, mi_c64) ft_64 := ft_mk mi_in64 (by rfl) (by decide +kernel)
theorem mi_pq65 : mi_prog[65]? = some (mi_h65, mi_c65) := by rfl
theorem mi_k65 : ft_M (mi_h65, mi_c65) ft_65 := ft_mk mi_in65 (by rfl) (by decide +kernel)
theorem mi_pq66 : mi_prog[66]? = some (mi_h66, mi_c66) := by rfl
theorem mi_k66 : ft_M (mi_h66, mi_c66) ft_66 := ft_mk mi_in66 (by rfl) (by decide +kernel)
theorem mi_pq67 : mi_prog[67]? = some (mi_h67, mi_c67) := by rfl
theorem mi_k67 : ft_M (mi_h67, mi_c67) ft_67 := ft_mk mi_in67 (by rfl) (by decide +kernel)
theorem mi_pq68 : mi_prog[68]? = some (mi_h68, mi_c68) := by rfl
theorem mi_k68 : ft_M (mi_h68, mi_c68) ft_68 := ft_mk mi_in68 (by rfl) (by decide +kernel)
theorem mi_pq69 : mi_prog[69]? = some (mi_h69, mi_c69) := by rfl
theorem mi_k69 : ft_M (mi_h69, mi_c69) ft_69 := ft_mk mi_in69 (by rfl) (by decide +kernel)
theorem mi_pq70 : mi_prog[70]? = some (mi_h70, mi_c70) := by rfl
theorem mi_k70 : ft_M (mi_h70, mi_c70) ft_70 := ft_mk mi_in70 (by rfl) (by decide +kernel)
theorem mi_pq71 : mi_prog[71]? = some (mi_h71, mi_c71) := by rfl
theorem mi_k71 : ft_M (mi_h71, mi_c71) ft_71 := ft_mk mi_in71 (by rfl) (by decide +kernel)
theorem mi_pq72 : mi_prog[72]? = some (mi_h72, mi_c72) := by rfl
theorem mi_k72 : ft_M (mi_h72, mi_c72) ft_72 := ft_mk mi_in72 (by rfl) (by decide +kernel)
theorem mi_pq73 : mi_prog[73]? = some (mi_h73, mi_c73) := by rfl
theorem mi_k73 : ft_M (mi_h73, mi_c73) ft_73 := ft_mk mi_in73 (by rfl) (by decide +kernel)
theorem mi_pq74 : mi_prog[74]? = some (mi_h74, mi_c74) := by rfl
theorem mi_k74 : ft_M (mi_h74, mi_c74) ft_74 := ft_mk mi_in74 (by rfl) (by decide +kernel)
theorem mi_pq75 : mi_prog[75]? = some (mi_h75, mi_c75) := by rfl
theorem mi_k75 : ft_M (mi_h75, mi_c75) ft_75 := ft_mk mi_in75 (by rfl) (by decide +kernel)
theorem mi_pq76 : mi_prog[76]? = some (mi_h76, mi_c76) := by rfl
theorem mi_k76 : ft_M (mi_h76, mi_c76) ft_76 := ft_mk mi_in76 (by rfl) (by decide +kernel)
theorem mi_pq77 : mi_prog[77]? = some (mi_h77, mi_c77) := by rfl
theorem mi_k77 : ft_M (mi_h77, mi_c77) ft_77 := ft_mk mi_in77 (by rfl) (by decide +kernel)
theorem mi_pq78 : mi_prog[78]? = some (mi_h78, mi_c78) := by rfl
theorem mi_k78 : ft_M (mi_h78, mi_c78) ft_78 := ft_mk mi_in78 (by rfl) (by decide +kernel)
theorem mi_k80 : ft_M (mi_h80, mi_c80) ft_80 := ft_mk mi_in80 (by rfl) (by decide +kernel)
theorem mi_k81 : ft_M (mi_h81, mi_c81) ft_81 := ft_mk mi_in81 (by rfl) (by decide +kernel)
theorem mi_pq82 : mi_prog[82]? = some (mi_h82, mi_c82) := by rfl
theorem mi_k82 : ft_M (mi_h82, mi_c82) ft_82 := ft_mk mi_in82 (by rfl) (by decide +kernel)
theorem mi_k83 : ft_M (mi_h83, mi_c83) ft_83 := ft_mk mi_in83 (by rfl) (by decide +kernel)
theorem mi_k84 : ft_M (mi_h84, mi_c84) ft_84 := ft_mk mi_in84 (by rfl) (by decide +kernel)
theorem mi_k85 : ft_M (mi_h85, mi_c85) ft_85 := ft_mk mi_in85 (by rfl) (by decide +kernel)
theorem mi_k86 : ft_M (mi_h86, mi_c86) ft_86 := ft_mk mi_in86 (by rfl) (by decide +kernel)
theorem mi_k87 : ft_M (mi_h87, mi_c87) ft_87 := ft_mk mi_in87 (by rfl) (by decide +kernel)
theorem mi_k88 : ft_M (mi_h88, mi_c88) ft_88 := ft_mk mi_in88 (by rfl) (by decide +kernel)
theorem mi_k89 : ft_M (mi_h89, mi_c89) ft_89 := ft_mk mi_in89 (by rfl) (by decide +kernel)
theorem mi_k90 : ft_M (mi_h90, mi_c90) ft_90 := ft_mk mi_in90 (by rfl) (by decide +kernel)
theorem mi_k91 : ft_M (mi_h91, mi_c91) ft_91 := ft_mk mi_in91 (by rfl) (by decide +kernel)
theorem mi_k92 : ft_M (mi_h92, mi_c92) ft_92 := ft_mk mi_in92 (by rfl) (by decide +kernel)
theorem mi_k93 : ft_M (mi_h93, mi_c93) ft_93 := ft_mk mi_in93 (by rfl) (by decide +kernel)
theorem mi_k94 : ft_M (mi_h94, mi_c94) ft_94 := ft_mk mi_in94 (by rfl) (by decide +kernel)
theorem mi_k95 : ft_M (mi_h95, mi_c95) ft_95 := ft_mk mi_in95 (by rfl) (by decide +kernel)
theorem mi_k96 : ft_M (mi_h96, mi_c96) ft_96 := ft_mk mi_in96 (by rfl) (by decide +kernel)
theorem mi_k97 : ft_M (mi_h97, mi_c97) ft_97 := ft_mk mi_in97 (by rfl) (by decide +kernel)
theorem mi_k98 : ft_M (mi_h98, mi_c98) ft_98 := ft_mk mi_in98 (by rfl) (by decide +kernel)
theorem mi_pq99 : mi_prog[99]? = some (mi_h99, mi_c99) := by rfl
theorem mi_k99 : ft_M (mi_h99, mi_c99) ft_99 := ft_mk mi_in99 (by rfl) (by decide +kernel)
theorem mi_k100 : ft_M (mi_h100, mi_c100) ft_100 := ft_mk mi_in100 (by rfl) (by decide +kernel)
theorem mi_k101 : ft_M (mi_h101, mi_c101) ft_101 := ft_mk mi_in101 (by rfl) (by decide +kernel)
theorem mi_k102 : ft_M (mi_h102, mi_c102) ft_102 := ft_mk mi_in102 (by rfl) (by decide +kernel)
theorem mi_k103 : ft_M (mi_h103, mi_c103) ft_103 := ft_mk mi_in103 (by rfl) (by decide +kernel)
theorem mi_k104 : ft_M (mi_h104, mi_c104) ft_104 := ft_mk mi_in104 (by rfl) (by decide +kernel)
theorem mi_k105 : ft_M (mi_h105, mi_c105) ft_105 := ft_mk mi_in105 (by rfl) (by decide +kernel)
theorem mi_k106 : ft_M (mi_h106, mi_c106) ft_106 := ft_mk mi_in106 (by rfl) (by decide +kernel)
theorem mi_k107 : ft_M (mi_h107, mi_c107) ft_107 := ft_mk mi_in107 (by rfl) (by decide +kernel)
theorem mi_k108 : ft_M (mi_h108, mi_c108) ft_108 := ft_mk mi_in108 (by rfl) (by decide +kernel)
theorem mi_k109 : ft_M (mi_h109, mi_c109) ft_109 := ft_mk mi_in109 (by rfl) (by decide +kernel)
theorem mi_k110 : ft_M (mi_h110, mi_c110) ft_110 := ft_mk mi_in110 (by rfl) (by decide +kernel)
theorem mi_k111 : ft_M (mi_h111, mi_c111) ft_111 := ft_mk mi_in111 (by rfl) (by decide +kernel)
theorem mi_k112 : ft_M (mi_h112, mi_c112) ft_112 := ft_mk mi_in112 (by rfl) (by decide +kernel)
theorem mi_k113 : ft_M (mi_h113, mi_c113) ft_113 := ft_mk mi_in113 (by rfl) (by decide +kernel)
theorem mi_k114 : ft_M (mi_h114, mi_c114) ft_114 := ft_mk mi_in114 (by rfl) (by decide +kernel)
theorem mi_k115 : ft_M (mi_h115, mi_c115) ft_115 := ft_mk mi_in115 (by rfl) (by decide +kernel)
theorem mi_k116 : ft_M (mi_h116, mi_c116) ft_116 := ft_mk mi_in116 (by rfl) (by decide +kernel)
theorem mi_k117 : ft_M (mi_h117, mi_c117) ft_117 := ft_mk mi_in117 (by rfl) (by decide +kernel)
theorem mi_k118 : ft_M (mi_h118, mi_c118) ft_118 := ft_mk mi_in118 (by rfl) (by decide +kernel)
theorem mi_k119 : ft_M (mi_h119, mi_c119) ft_119 := ft_mk mi_in119 (by rfl) (by decide +kernel)
theorem mi_pq120 : mi_prog[120]? = some (mi_h120, mi_c120) := by rfl
theorem mi_k120 : ft_M (mi_h120, mi_c120) ft_120 := ft_mk mi_in120 (by rfl) (by decide +kernel)
theorem mi_pq121 : mi_prog[121]? = some (mi_h121, mi_c121) := by rfl
theorem mi_k121 : ft_M (mi_h121, mi_c121) ft_121 := ft_mk mi_in121 (by rfl) (by decide +kernel)
theorem mi_pq122 : mi_prog[122]? = some (mi_h122, mi_c122) := by rfl
theorem mi_k122 : ft_M (mi_h122, mi_c122) ft_122 := ft_mk mi_in122 (by rfl) (by decide +kernel)
theorem mi_pq123 : mi_prog[123]? = some (mi_h123, mi_c123) := by rfl
theorem mi_k123 : ft_M (mi_h123, mi_c123) ft_123 := ft_mk mi_in123 (by rfl) (by decide +kernel)
theorem mi_pq124 : mi_prog[124]? = some (mi_h124, mi_c124) := by rfl
theorem mi_k124 : ft_M (mi_h124, mi_c124) ft_124 := ft_mk mi_in124 (by rfl) (by decide +kernel)
theorem mi_pq125 : mi_prog[125]? = some (mi_h125, mi_c125) := by rfl
theorem mi_k125 : ft_M (mi_h125, mi_c125) ft_125 := ft_mk mi_in125 (by rfl) (by decide +kernel)
theorem mi_pq126 : mi_prog[126]? = some (mi_h126, mi_c126) := by rfl
theorem mi_k126 : ft_M (mi_h126, mi_c126) ft_126 := ft_mk mi_in126 (by rfl) (by decide +kernel)
theorem mi_pq127 : mi_prog[127]? = some (mi_h127, mi_c127) := by rfl
theorem mi_k127 : ft_M (mi_h127, mi_c127) ft_127 := ft_mk mi_in127 (by rfl) (by decide +kernel)
theorem mi_pq128 : mi_prog[128]? = some (mi_h128, mi_c128) := by rfl
theorem mi_k128 : ft_M (mi_h128, mi_c128) ft_128 := ft_mk mi_in128 (by rfl) (by decide +kernel)
theorem mi_pq129 : mi_prog[129]? = some (mi_h129, mi_c129) := by rfl
theorem mi_k129 : ft_M (mi_h129, mi_c129) ft_129 := ft_mk mi_in129 (by rfl) (by decide +kernel)
theorem mi_pq131 : mi_prog[131]? = some (mi_h131, mi_c131) := by rfl
theorem mi_k131 : ft_M (mi_h131, mi_c131) ft_131 := ft_mk mi_in131 (by rfl) (by decide +kernel)
theorem mi_pq132 : mi_prog[132]? = some (mi_h132, mi_c132) := by rfl
theorem mi_k132 : ft_M (mi_h132, mi_c132) ft_132 := ft_mk mi_in132 (by rfl) (by decide +kernel)
theorem mi_pq133 : mi_prog[133]? = some (mi_h133, mi_c133) := by rfl
theorem mi_k133 : ft_M (mi_h133, mi_c133) ft_133 := ft_mk mi_in133 (by rfl) (by decide +kernel)
theorem mi_pq134 : mi_prog[134]? = some (mi_h134, mi_c134) := by rfl
theorem mi_k134 : ft_M (mi_h134, mi_c134) ft_134 := ft_mk mi_in134 (by rfl) (by decide +kernel)
theorem mi_k135 : ft_M (mi_h135, mi_c135) ft_135 := ft_mk mi_in135 (by rfl) (by decide +kernel)
theorem mi_k136 : ft_M (mi_h136, mi_c136) ft_136 := ft_mk mi_in136 (by rfl) (by decide +kernel)
theorem mi_pq137 : mi_prog[137]? = some (mi_h137, mi_c137) := by rfl
theorem mi_k137 : ft_M (mi_h137, mi_c137) ft_137 := ft_mk mi_in137 (by rfl) (by decide +kernel)
theorem mi_pq138 : mi_prog[138]? = some (mi_h138, mi_c138) := by rfl
theorem mi_k138 : ft_M (mi_h138, mi_c138) ft_138 := ft_mk mi_in138 (by rfl) (by decide +kernel)
theorem mi_pq139 : mi_prog[139]? = some (mi_h139, mi_c139) := by rfl
theorem mi_k139 : ft_M (mi_h139, mi_c139) ft_139 := ft_mk mi_in139 (by rfl) (by decide +kernel)
theorem mi_pq140 : mi_prog[140]? = some (mi_h140, mi_c140) := by rfl
theorem mi_k140 : ft_M (mi_h140, mi_c140) ft_140 := ft_mk mi_in140 (by rfl) (by decide +kernel)
theorem mi_pq141 : mi_prog[141]? = some (mi_h141, mi_c141) := by rfl
theorem mi_k141 : ft_M (mi_h141, mi_c141) ft_141 := ft_mk mi_in141 (by rfl) (by decide +kernel)
theorem mi_k142 : ft_M (mi_h142, mi_c142) ft_142 := ft_mk mi_in142 (by rfl) (by decide +kernel)
theorem mi_k143 : ft_M (mi_h143, mi_c143) ft_143 := ft_mk mi_in143 (by rfl) (by decide +kernel)
theorem mi_k144 : ft_M (mi_h144, mi_c144) ft_144 := ft_mk mi_in144 (by rfl) (by decide +kernel)
theorem mi_k145 : ft_M (mi_h145, mi_c145) ft_145 := ft_mk mi_in145 (by rfl) (by decide +kernel)
theorem mi_k146 : ft_M (mi_h146, mi_c146) ft_146 := ft_mk mi_in146 (by rfl) (by decide +kernel)
theorem mi_pq147 : mi_prog[147]? = some (mi_h147, mi_c147) := by rfl
theorem mi_k147 : ft_M (mi_h147, mi_c147) ft_147 := ft_mk mi_in147 (by rfl) (by decide +kernel)
theorem mi_pq148 : mi_prog[148]? = some (mi_h148, mi_c148) := by rfl
theorem mi_k148 : ft_M (mi_h148, mi_c148) ft_148 := ft_mk mi_in148 (by rfl) (by decide +kernel)
theorem mi_pq149 : mi_prog[149]? = some (mi_h149, mi_c149) := by rfl
theorem mi_k149 : ft_M (mi_h149, mi_c149) ft_149 := ft_mk mi_in149 (by rfl) (by decide +kernel)
theorem mi_pq150 : mi_prog[150]? = some (mi_h150, mi_c150) := by rfl
theorem mi_k150 : ft_M (mi_h150, mi_c150) ft_150 := ft_mk mi_in150 (by rfl) (by decide +kernel)
theorem mi_pq151 : mi_prog[151]? = some (mi_h151, mi_c151) := by rfl
theorem mi_k151 : ft_M (mi_h151, mi_c151) ft_151 := ft_mk mi_in151 (by rfl) (by decide +kernel)
theorem mi_pq152 : mi_prog[152]? = some (mi_h152, mi_c152) := by rfl
theorem mi_k152 : ft_M (mi_h152, mi_c152) ft_152 := ft_mk mi_in152 (by rfl) (by decide +kernel)
theorem mi_pq153 : mi_prog[153]? = some (mi_h153, mi_c153) := by rfl
theorem mi_k153 : ft_M (mi_h153, mi_c153) ft_153 := ft_mk mi_in153 (by rfl) (by decide +kernel)
theorem mi_pq154 : mi_prog[154]? = some (mi_h154, mi_c154) := by rfl
theorem mi_k154 : ft_M (mi_h154, mi_c154) ft_154 := ft_mk mi_in154 (by rfl) (by decide +kernel)
theorem mi_pq155 : mi_prog[155]? = some (mi_h155, mi_c155) := by rfl
theorem mi_k155 : ft_M (mi_h155, mi_c155) ft_155 := ft_mk mi_in155 (by rfl) (by decide +kernel)
theorem mi_pq156 : mi_prog[156]? = some (mi_h156, mi_c156) := by rfl
theorem mi_k156 : ft_M (mi_h156, mi_c156) ft_156 := ft_mk mi_in156 (by rfl) (by decide +kernel)
theorem mi_pq157 : mi_prog[157]? = some (mi_h157, mi_c157) := by rfl
theorem mi_k157 : ft_M (mi_h157, mi_c157) ft_157 := ft_mk mi_in157 (by rfl) (by decide +kernel)
theorem mi_pq158 : mi_prog[158]? = some (mi_h158, mi_c158) := by rfl
theorem mi_k158 : ft_M (mi_h158, mi_c158) ft_158 := ft_mk mi_in158 (by rfl) (by decide +kernel)
theorem mi_k159 : ft_M (mi_h159, mi_c159) ft_159 := ft_mk mi_in159 (by rfl) (by decide +kernel)
theorem mi_pq160 : mi_prog[160]? = some (mi_h160, mi_c160) := by rfl
theorem mi_k160 : ft_M (mi_h160, mi_c160) ft_160 := ft_mk mi_in160 (by rfl) (by decide +kernel)
theorem mi_pq161 : mi_prog[161]? = some (mi_h161, mi_c161) := by rfl
theorem mi_k161 : ft_M (mi_h161, mi_c161) ft_161 := ft_mk mi_in161 (by rfl) (by decide +kernel)
theorem mi_pq162 : mi_prog[162]? = some (mi_h162, mi_c162) := by rfl
theorem mi_k162 : ft_M (mi_h162, mi_c162) ft_162 := ft_mk mi_in162 (by rfl) (by decide +kernel)
theorem mi_pq163 : mi_prog[163]? = some (mi_h163, mi_c163) := by rfl
theorem mi_k163 : ft_M (mi_h163, mi_c163) ft_163 := ft_mk mi_in163 (by rfl) (by decide +kernel)
theorem mi_k164 : ft_M (mi_h164, mi_c164) ft_164 := ft_mk mi_in164 (by rfl) (by decide +kernel)
theorem mi_pq165 : mi_prog[165]? = some (mi_h165, mi_c165) := by rfl
theorem mi_k165 : ft_M (mi_h165, mi_c165) ft_165 := ft_mk mi_in165 (by rfl) (by decide +kernel)
theorem mi_pq166 : mi_prog[166]? = some (mi_h166, mi_c166) := by rfl
theorem mi_k166 : ft_M (mi_h166, mi_c166) ft_166 := ft_mk mi_in166 (by rfl) (by decide +kernel)
theorem mi_pq167 : mi_prog[167]? = some (mi_h167, mi_c167) := by rfl
theorem mi_k167 : ft_M (mi_h167, mi_c167) ft_167 := ft_mk mi_in167 (by rfl) (by decide +kernel)
theorem mi_pq168 : mi_prog[168]? = some (mi_h168, mi_c168) := by rfl
theorem mi_k168 : ft_M (mi_h168, mi_c168) ft_168 := ft_mk mi_in168 (by rfl) (by decide +kernel)
theorem mi_pq169 : mi_prog[169]? = some (mi_h169, mi_c169) := by rfl
theorem mi_k169 : ft_M (mi_h169, mi_c169) ft_169 := ft_mk mi_in169 (by rfl) (by decide +kernel)
theorem mi_pq170 : mi_prog[170]? = some (mi_h170, mi_c170) := by rfl
theorem mi_k170 : ft_M (mi_h170, mi_c170) ft_170 := ft_mk mi_in170 (by rfl) (by decide +kernel)
theorem mi_pq171 : mi_prog[171]? = some (mi_h171, mi_c171) := by rfl
theorem mi_k171 : ft_M (mi_h171, mi_c171) ft_171 := ft_mk mi_in171 (by rfl) (by decide +kernel)
theorem mi_pq172 : mi_prog[172]? = some (mi_h172, mi_c172) := by rfl
theorem mi_k172 : ft_M (mi_h172, mi_c172) ft_172 := ft_mk mi_in172 (by rfl) (by decide +kernel)
theorem mi_pq173 : mi_prog[173]? = some (mi_h173, mi_c173) := by rfl
theorem mi_k173 : ft_M (mi_h173, mi_c173) ft_173 := ft_mk mi_in173 (by rfl) (by decide +kernel)
theorem mi_pq174 : mi_prog[174]? = some (mi_h174, mi_c174) := by rfl
theorem mi_k174 : ft_M (mi_h174, mi_c174) ft_174 := ft_mk mi_in174 (by rfl) (by decide +kernel)
theorem mi_k175 : ft_M (mi_h175, mi_c175) ft_175 := ft_mk mi_in175 (by rfl) (by decide +kernel)
theorem mi_k176 : ft_M (mi_h176, mi_c176) ft_176 := ft_mk mi_in176 (by rfl) (by decide +kernel)
theorem mi_k177 : ft_M (mi_h177, mi_c177) ft_177 := ft_mk mi_in177 (by rfl) (by decide +kernel)
theorem mi_pq178 : mi_prog[178]? = some (mi_h178, mi_c178) := by rfl
theorem mi_k178 : ft_M (mi_h178, mi_c178) ft_178 := ft_mk mi_in178 (by rfl) (by decide +kernel)
theorem mi_pq179 : mi_prog[179]? = some (mi_h179, mi_c179) := by rfl
theorem mi_k179 : ft_M (mi_h179, mi_c179) ft_179 := ft_mk mi_in179 (by rfl) (by decide +kernel)
theorem mi_k180 : ft_M (mi_h180, mi_c180) ft_180 := ft_mk mi_in180 (by rfl) (by decide +kernel)
theorem mi_k181 : ft_M (mi_h181, mi_c181) ft_181 := ft_mk mi_in181 (by rfl) (by decide +kernel)
theorem mi_pq182 : mi_prog[182]? = some (mi_h182, mi_c182) := by rfl
theorem mi_k182 : ft_M (mi_h182, mi_c182) ft_182 := ft_mk mi_in182 (by rfl) (by decide +kernel)
theorem mi_k183 : ft_M (mi_h183, mi_c183) ft_183 := ft_mk mi_in183 (by rfl) (by decide +kernel)
theorem mi_pq184 : mi_prog[184]? = some (mi_h184, mi_c184) := by rfl
theorem mi_k184 : ft_M (mi_h184, mi_c184) ft_184 := ft_mk mi_in184 (by rfl) (by decide +kernel)
theorem mi_k185 : ft_M (mi_h185, mi_c185) ft_185 := ft_mk mi_in185 (by rfl) (by decide +kernel)
theorem mi_pq186 : mi_prog[186]? = some (mi_h186, mi_c186) := by rfl
theorem mi_k186 : ft_M (mi_h186, mi_c186) ft_186 := ft_mk mi_in186 (by rfl) (by decide +kernel)
theorem mi_k187 : ft_M (mi_h187, mi_c187) ft_187 := ft_mk mi_in187 (by rfl) (by decide +kernel)
theorem mi_pq188 : mi_prog[188]? = some (mi_h188, mi_c188) := by rfl
theorem mi_k188 : ft_M (mi_h188, mi_c188) ft_188 := ft_mk mi_in188 (by rfl) (by decide +kernel)
theorem mi_k189 : ft_M (mi_h189, mi_c189) ft_189 := ft_mk mi_in189 (by rfl) (by decide +kernel)
theorem mi_pq190 : mi_prog[190]? = some (mi_h190, mi_c190) := by rfl
theorem mi_k190 : ft_M (mi_h190, mi_c190) ft_190 := ft_mk mi_in190 (by rfl) (by decide +kernel)
theorem mi_pq191 : mi_prog[191]? = some (mi_h191, mi_c191) := by rfl
theorem mi_k191 : ft_M (mi_h191, mi_c191) ft_191 := ft_mk mi_in191 (by rfl) (by decide +kernel)
theorem mi_pq192 : mi_prog[192]? = some (mi_h192, mi_c192) := by rfl
theorem mi_k192 : ft_M (mi_h192, mi_c192) ft_192 := ft_mk mi_in192 (by rfl) (by decide +kernel)
theorem mi_k193 : ft_M (mi_h193, mi_c193) ft_193 := ft_mk mi_in193 (by rfl) (by decide +kernel)
theorem mi_pq194 : mi_prog[194]? = some (mi_h194, mi_c194) := by rfl
theorem mi_k194 : ft_M (mi_h194, mi_c194) ft_194 := ft_mk mi_in194 (by rfl) (by decide +kernel)
theorem mi_pq195 : mi_prog[195]? = some (mi_h195, mi_c195) := by rfl
theorem mi_k195 : ft_M (mi_h195, mi_c195) ft_195 := ft_mk mi_in195 (by rfl) (by decide +kernel)
theorem mi_pq196 : mi_prog[196]? = some (mi_h196, mi_c196) := by rfl
theorem mi_k196 : ft_M (mi_h196, mi_c196) ft_196 := ft_mk mi_in196 (by rfl) (by decide +kernel)
theorem mi_k197 : ft_M (mi_h197, mi_c197) ft_197 := ft_mk mi_in197 (by rfl) (by decide +kernel)
theorem mi_pq198 : mi_prog[198]? = some (mi_h198, mi_c198) := by rfl
theorem mi_k198 : ft_M (mi_h198, mi_c198) ft_198 := ft_mk mi_in198 (by rfl) (by decide +kernel)
theorem mi_pq199 : mi_prog[199]? = some (mi_h199, mi_c199) := by rfl
theorem mi_k199 : ft_M (mi_h199, mi_c199) ft_199 := ft_mk mi_in199 (by rfl) (by decide +kernel)
theorem mi_k200 : ft_M (mi_h200, mi_c200) ft_200 := ft_mk mi_in200 (by rfl) (by decide +kernel)
theorem mi_k201 : ft_M (mi_h201, mi_c201) ft_201 := ft_mk mi_in201 (by rfl) (by decide +kernel)
theorem mi_k202 : ft_M (mi_h202, mi_c202) ft_202 := ft_mk mi_in202 (by rfl) (by decide +kernel)
theorem mi_k203 : ft_M (mi_h203, mi_c203) ft_203 := ft_mk mi_in203 (by rfl) (by decide +kernel)
theorem mi_k204 : ft_M (mi_h204, mi_c204) ft_204 := ft_mk mi_in204 (by rfl) (by decide +kernel)
theorem mi_k205 : ft_M (mi_h205, mi_c205) ft_205 := ft_mk mi_in205 (by rfl) (by decide +kernel)
theorem mi_k206 : ft_M (mi_h206, mi_c206) ft_206 := ft_mk mi_in206 (by rfl) (by decide +kernel)
theorem mi_k207 : ft_M (mi_h207, mi_c207) ft_207 := ft_mk mi_in207 (by rfl) (by decide +kernel)
theorem mi_pq208 : mi_prog[208]? = some (mi_h208, mi_c208) := by rfl
theorem mi_k208 : ft_M (mi_h208, mi_c208) ft_208 := ft_mk mi_in208 (by rfl) (by decide +kernel)
theorem mi_pq209 : mi_prog[209]? = some (mi_h209, mi_c209) := by rfl
theorem mi_k209 : ft_M (mi_h209, mi_c209) ft_209 := ft_mk mi_in209 (by rfl) (by decide +kernel)
theorem mi_pq210 : mi_prog[210]? = some (mi_h210, mi_c210) := by rfl
theorem mi_k210 : ft_M (mi_h210, mi_c210) ft_210 := ft_mk mi_in210 (by rfl) (by decide +kernel)
theorem mi_pq211 : mi_prog[211]? = some (mi_h211, mi_c211) := by rfl
theorem mi_k211 : ft_M (mi_h211, mi_c211) ft_211 := ft_mk mi_in211 (by rfl) (by decide +kernel)
theorem mi_pq212 : mi_prog[212]? = some (mi_h212, mi_c212) := by rfl
theorem mi_k212 : ft_M (mi_h212, mi_c212) ft_212 := ft_mk mi_in212 (by rfl) (by decide +kernel)
theorem mi_pq213 : mi_prog[213]? = some (mi_h213, mi_c213) := by rfl
theorem mi_k213 : ft_M (mi_h213, mi_c213) ft_213 := ft_mk mi_in213 (by rfl) (by decide +kernel)
theorem mi_k214 : ft_M (mi_h214, mi_c214) ft_214 := ft_mk mi_in214 (by rfl) (by decide +kernel)
theorem mi_k215 : ft_M (mi_h215, mi_c215) ft_215 := ft_mk mi_in215 (by rfl) (by decide +kernel)
theorem mi_k216 : ft_M (mi_h216, mi_c216) ft_216 := ft_mk mi_in216 (by rfl) (by decide +kernel)
theorem mi_k217 : ft_M (mi_h217, mi_c217) ft_217 := ft_mk mi_in217 (by rfl) (by decide +kernel)
theorem mi_k218 : ft_M (mi_h218, mi_c218) ft_218 := ft_mk mi_in218 (by rfl) (by decide +kernel)
theorem mi_pq219 : mi_prog[219]? = some (mi_h219, mi_c219) := by rfl
theorem mi_k219 : ft_M (mi_h219, mi_c219) ft_219 := ft_mk mi_in219 (by rfl) (by decide +kernel)
theorem mi_pq220 : mi_prog[220]? = some (mi_h220, mi_c220) := by rfl
theorem mi_k220 : ft_M (mi_h220, mi_c220) ft_220 := ft_mk mi_in220 (by rfl) (by decide +kernel)
theorem mi_k221 : ft_M (mi_h221, mi_c221) ft_221 := ft_mk mi_in221 (by rfl) (by decide +kernel)
theorem mi_k222 : ft_M (mi_h222, mi_c222) ft_222 := ft_mk mi_in222 (by rfl) (by decide +kernel)
theorem mi_k223 : ft_M (mi_h223, mi_c223) ft_223 := ft_mk mi_in223 (by rfl) (by decide +kernel)
theorem mi_k224 : ft_M (mi_h224, mi_c224) ft_224 := ft_mk mi_in224 (by rfl) (by decide +kernel)
theorem mi_k225 : ft_M (mi_h225, mi_c225) ft_225 := ft_mk mi_in225 (by rfl) (by decide +kernel)
theorem mi_pq226 : mi_prog[226]? = some (mi_h226, mi_c226) := by rfl
theorem mi_k226 : ft_M (mi_h226, mi_c226) ft_226 := ft_mk mi_in226 (by rfl) (by decide +kernel)
theorem mi_pq227 : mi_prog[227]? = some (mi_h227, mi_c227) := by rfl
theorem mi_k227 : ft_M (mi_h227, mi_c227) ft_227 := ft_mk mi_in227 (by rfl) (by decide +kernel)
theorem mi_pq228 : mi_prog[228]? = some (mi_h228, mi_c228) := by rfl
theorem mi_k228 : ft_M (mi_h228, mi_c228) ft_228 := ft_mk mi_in228 (by rfl) (by decide +kernel)
theorem mi_pq229 : mi_prog[229]? = some (mi_h229, mi_c229) := by rfl
theorem mi_k229 : ft_M (mi_h229, mi_c229) ft_229 := ft_mk mi_in229 (by rfl) (by decide +kernel)
theorem mi_pq230 : mi_prog[230]? = some (mi_h230, mi_c230) := by rfl
theorem mi_k230 : ft_M (mi_h230, mi_c230) ft_230 := ft_mk mi_in230 (by rfl) (by decide +kernel)
theorem mi_pq231 : mi_prog[231]? = some (mi_h231, mi_c231) := by rfl
theorem mi_k231 : ft_M (mi_h231, mi_c231) ft_231 := ft_mk mi_in231 (by rfl) (by decide +kernel)
theorem mi_pq232 : mi_prog[232]? = some (mi_h232, mi_c232) := by rfl
theorem mi_k232 : ft_M (mi_h232, mi_c232) ft_232 := ft_mk mi_in232 (by rfl) (by decide +kernel)
theorem mi_pq233 : mi_prog[233]? = some (mi_h233, mi_c233) := by rfl
theorem mi_k233 : ft_M (mi_h233, mi_c233) ft_233 := ft_mk mi_in233 (by rfl) (by decide +kernel)
theorem mi_pq234 : mi_prog[234]? = some (mi_h234, mi_c234) := by rfl
theorem mi_k234 : ft_M (mi_h234, mi_c234) ft_234 := ft_mk mi_in234 (by rfl) (by decide +kernel)

