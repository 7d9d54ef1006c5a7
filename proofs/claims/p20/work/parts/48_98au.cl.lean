theorem ktol0 : (0 : Int32).toInt = 0 := by decide
theorem ktol1 : (1 : Int32).toInt = 1 := by decide
theorem ktol5 : (5 : Int32).toInt = 5 := by decide
theorem ktol2 : (2 : Int32).toInt = 2 := by decide
theorem ktol10 : (10 : Int32).toInt = 10 := by decide
theorem ktolm1 : ((-1) : Int32).toInt = (-1) := by decide
theorem tol0 {a0 : Int} (h0 : (1 : Int) ≤ a0) : (0 : Int) ≤ a0 := oz489 h0
theorem tol1 {a0 : Int} (h0 : a0 ≤ 5) : a0 ≤ 8 := oz1198 h0
theorem tol2 {a0 : Int} (h0 : a0 ≤ 5) : a0 ≤ 5 := oz527 h0
theorem tol3 {a0 a1 : Int} (h0 : (1 : Int) ≤ a0) (h1 : a1 = 1) : (-2147483648 : Int) ≤ a0 - a1 := oz341 h0 h1
theorem tol4 {a0 a1 : Int} (h0 : a0 ≤ 5) (h1 : a1 = 1) : a0 - a1 ≤ 2147483647 := oz342 h0 h1
theorem tol5 {a0 a1 : Int} (h0 : a0 ≤ a1) (h1 : (0 : Int) ≤ a0) (h2 : a1 = 0) : a0 = 0 := by omega
theorem tol6 {a0 a1 : Int} (h0 : a0 < a1) (h1 : a0 = 0) : (0 : Int) ≤ a1 := oz1199 h0 h1
theorem tol7 {a0 a1 : Int} (h0 : a0 ≤ 5) (h1 : (a1 + 1) ≤ a0) : a1 ≤ 8 := by omega
theorem tol8 {a0 a1 : Int} (h0 : a0 ≤ 5) (h1 : (a1 + 1) ≤ a0) : a1 ≤ 4 := by omega
theorem tol9 {a0 a1 a2 : Int} (h0 : a0 < a1) (h1 : a0 = 0) (h2 : a2 = (-1)) : (-2147483648 : Int) ≤ a1 + a2 := oz1202 h0 h1 h2
theorem tol10 {a0 a1 a2 : Int} (h0 : a0 ≤ 5) (h1 : (a1 + 1) ≤ a0) (h2 : a2 = (-1)) : a1 + a2 ≤ 2147483647 := by omega
theorem tol11 {a0 a1 a2 a3 : Int} (h0 : a0 < a1) (h1 : a2 = a1 + a3) (h2 : a0 = 0) (h3 : a3 = (-1)) : (0 : Int) ≤ a2 := by omega
theorem tol12 {a0 a1 a2 a3 : Int} (h0 : (a0 + 1) ≤ a1) (h1 : a2 = a0 + a3) (h2 : a3 = (-1)) : (a2 + 1) ≤ a1 := by omega
theorem tol13 {a0 a1 : Int} (h0 : a0 ≤ a1) : a0 ≤ a1 := oz173 h0
theorem tol14 {a0 a1 : Int} (h0 : a0 < a1) (h1 : a0 = 0) : (1 : Int) ≤ a1 := oz659 h0 h1
theorem tol15 {a0 a1 a2 : Int} (h0 : a0 = a1 + a2) (h1 : a2 = (-1)) : a0 = a1 - 1 := oy90 h0 h1
theorem tol16 {a0 a1 a2 : Int} (h0 : a0 = a1 + a2) (h1 : a2 = (-1)) : a0 < a1 := oz1205 h0 h1
theorem tol17 {a0 : Int} (h0 : (0 : Int) ≤ a0) : (-2147483648 : Int) ≤ 2 * a0 := oz1206 h0
theorem tol18 {a0 a1 : Int} (h0 : a0 < a1) (h1 : a1 ≤ 256) : 2 * a0 ≤ 2147483647 := oz1207 h0 h1
theorem tol19 {a0 a1 : Int} (h0 : (0 : Int) ≤ a0) (h1 : a1 = 2 * a0) : (0 : Int) ≤ a1 := oz1208 h0 h1
theorem tol20 {a0 a1 a2 : Int} (h0 : a0 < a1) (h1 : a1 ≤ 16) (h2 : a2 = 2 * a0) : a2 < 32 := oz1209 h0 h1 h2
theorem tol21 {a0 a1 a2 : Int} (h0 : (0 : Int) ≤ a0) (h1 : a1 = 2 * a0) (h2 : a2 = 1) : (-2147483648 : Int) ≤ a1 + a2 := oz1210 h0 h1 h2
theorem tol22 {a0 a1 a2 a3 : Int} (h0 : a0 < a1) (h1 : a1 ≤ 256) (h2 : a2 = 2 * a0) (h3 : a3 = 1) : a2 + a3 ≤ 2147483647 := oz1211 h0 h1 h2 h3
theorem tol23 {a0 a1 a2 a3 : Int} (h0 : (0 : Int) ≤ a0) (h1 : a1 = 2 * a0) (h2 : a2 = a1 + a3) (h3 : a3 = 1) : (0 : Int) ≤ a2 := oz1212 h0 h1 h2 h3
theorem tol24 {a0 a1 a2 a3 a4 : Int} (h0 : a0 < a1) (h1 : a1 ≤ 16) (h2 : a2 = 2 * a0) (h3 : a3 = a2 + a4) (h4 : a4 = 1) : a3 < 32 := oz1213 h0 h1 h2 h3 h4
theorem tol25 {a0 : Int} (h0 : (0 : Int) ≤ a0) : (0 : Int) ≤ a0 := oz3 h0
theorem tol26 {a0 a1 : Int} (h0 : a0 < a1) (h1 : a1 ≤ 16) : a0 < 32 := oz1214 h0 h1
theorem tol27 {a0 a1 : Int} (h0 : (0 : Int) ≤ a0) (h1 : a1 = 1) : (-2147483648 : Int) ≤ a0 + a1 := oz12 h0 h1
theorem tol28 {a0 a1 a2 : Int} (h0 : a0 < a1) (h1 : a1 ≤ 256) (h2 : a2 = 1) : a0 + a2 ≤ 2147483647 := oz1215 h0 h1 h2
theorem tol29 {a0 a1 a2 : Int} (h0 : (0 : Int) ≤ a0) (h1 : a1 = a0 + a2) (h2 : a2 = 1) : (0 : Int) ≤ a1 := oz14 h0 h1 h2
theorem tol30 {a0 a1 a2 a3 a4 a5 : Int} (h0 : a0 ≠ a1) (h1 : a2 ≤ a3) (h2 : a2 ≤ a4) (h3 : a2 = a3 ∨ a2 = a4) (h4 : a0 = (a5 % 2)) (h5 : a1 = 0) : ¬ ((a5 % 2) = 0) ∧ (a2 ≤ a3 ∧ a2 ≤ a4) ∧ (a2 = a3 ∨ a2 = a4) := by omega
theorem tol31 {a0 a1 : Int} (h0 : a0 < a1) : a0 < a1 := oz270 h0
theorem tol32 {a0 a1 : Int} (h0 : (a0 + 1) ≤ a1) : a0 < a1 := by omega
theorem tol33 {a0 a1 a2 : Int} (h0 : a0 < a1) (h1 : (a1 + 1) ≤ a2) (h2 : a0 = 0) : (0 : Int) ≤ a2 := by omega
theorem tol34 {a0 a1 a2 : Int} (h0 : a0 = a1 + a2) (h1 : a2 = 1) : a0 = a1 + 1 := oz169 h0 h1
theorem tol35 {a0 a1 : Int} (h0 : a0 = 2 * a1) : a0 = 2 * a1 := by omega
theorem tol36 {a0 a1 a2 a3 : Int} (h0 : a0 = 2 * a1) (h1 : a2 = a0 + a3) (h2 : a3 = 1) : a2 = 2 * a1 + 1 := by omega
theorem tol37 {a0 a1 a2 : Int} (h0 : a0 = a1 + a2) (h1 : a2 = 1) : (16 - a0) < (16 - a1) := oz1217 h0 h1
theorem tol38 {a0 a1 : Int} (h0 : a0 < a1) (h1 : a1 ≤ 16) : (1 : Int) ≤ (16 - a0) := oz1218 h0 h1
theorem tol39 {a0 a1 a2 a3 a4 a5 : Int} (h0 : a0 = a1) (h1 : a2 ≤ a3) (h2 : a4 ≤ a3) (h3 : a3 = a2 ∨ a3 = a4) (h4 : a0 = (a5 % 2)) (h5 : a1 = 0) : (a5 % 2) = 0 ∧ (a2 ≤ a3 ∧ a4 ≤ a3) ∧ (a3 = a2 ∨ a3 = a4) := by omega
theorem tol40 {a0 : Int} (h0 : a0 = 0) : (0 : Int) ≤ a0 := oz46 h0
theorem tol41 {a0 a1 a2 : Int} (h0 : (1 : Int) ≤ a0) (h1 : a1 = a0 - a2) (h2 : a2 = 1) : (0 : Int) ≤ a1 := oz425 h0 h1 h2
theorem tol42 {a0 a1 a2 : Int} (h0 : a0 = a1 - a2) (h1 : a2 = 1) : (a0 + 1) ≤ a1 := by omega
theorem tol43 {a0 : Int} (h0 : (1 : Int) ≤ a0) : (1 : Int) ≤ a0 := oz526 h0
theorem tol44 {a0 a1 a2 : Int} (h0 : a0 = a1 - a2) (h1 : a2 = 1) : a0 = a1 - 1 := og39 h0 h1
theorem tol45 {a0 a1 : Int} (h0 : a0 < a1) (h1 : a1 ≤ 32) : a0 < 32 := by omega
theorem tol46 {a0 a1 a2 a3 : Int} (h0 : a0 = a1) (h1 : a2 = a3) (h2 : a3 = a0) : a2 = a1 := by omega
theorem tol47 {a0 a1 : Int} (h0 : a0 ≤ a1) (h1 : a1 ≤ a0) : a1 = a0 := oy46 h0 h1
theorem tol48 {a0 a1 : Int} (h0 : a0 < a1) (h1 : a1 ≤ 32) : a0 < ((32 : Nat) : Int) := by omega
theorem tol49 {a0 a1 a2 : Int} (h0 : a0 = a1 + a2) (h1 : a2 = 1) : (32 - a0) < (32 - a1) := oz1186 h0 h1
theorem tol50 {a0 a1 : Int} (h0 : a0 < a1) (h1 : a1 ≤ 32) : (1 : Int) ≤ (32 - a0) := by omega
theorem tol51 {a0 a1 a2 a3 : Int} (h0 : a0 < a1) (h1 : a2 = a1 - a3) (h2 : a3 = 1) : (-2147483648 : Int) ≤ a2 - a0 := oz1223 h0 h1 h2
theorem tol52 {a0 a1 a2 a3 : Int} (h0 : a0 ≤ 5) (h1 : (0 : Int) ≤ a1) (h2 : a2 = a0 - a3) (h3 : a3 = 1) : a2 - a1 ≤ 2147483647 := oz1224 h0 h1 h2 h3
theorem tol53 {a0 a1 a2 : Int} (h0 : a0 < a1) (h1 : a1 ≤ 5) (h2 : a2 = 1) : a0 + a2 ≤ 2147483647 := oz370 h0 h1 h2
theorem tol54 {a0 a1 a2 a3 : Int} (h0 : a0 < a1) (h1 : a2 = a0 + a3) (h2 : a3 = 1) : a2 ≤ a1 := og20 h0 h1 h2
theorem tol55 {a0 a1 a2 a3 a4 : Int} (h0 : a0 = a1 - a2) (h1 : a3 = a0 - a4) (h2 : a2 = 1) : a3 = a1 - 1 - a4 := by omega
theorem tol56 {a0 a1 : Int} (h0 : a0 ≠ a1) (h1 : a1 = 1) : ¬ (a0 = 1) := by omega
theorem tol57 {a0 a1 a2 a3 : Int} (h0 : a0 = a1 + a2) (h1 : a2 = 1) : (a3 - a0) < (a3 - a1) := oz44 h0 h1
theorem tol58 {a0 a1 : Int} (h0 : a0 < a1) : (1 : Int) ≤ (a1 - a0) := oz45 h0
theorem tol59 {a0 a1 a2 : Int} (h0 : a0 = a1) (h1 : (0 : Int) ≤ a2) (h2 : a2 < a1) : ((0 : Int) ≤ a2) ∧ (a2 < a0) := by omega
theorem tol60 {a0 a1 a2 a3 a4 : Int} (h0 : a0 = a1) (h1 : a2 = a3) (h2 : a3 = a0) (h3 : a4 = a2) : a4 = a1 := by omega
theorem tol61 {a0 a1 a2 : Int} (h0 : a0 ≠ a1) (h1 : a0 = (a2 % 2)) (h2 : a1 = 0) : ¬ ((a2 % 2) = 0) := by omega
theorem tol62 {a0 a1 : Int} (h0 : a0 = a1) (h1 : a1 = 1) : a0 = 1 := by omega
theorem tol63 {a0 a1 a2 : Int} (h0 : a0 = a1) (h1 : a0 = (a2 % 2)) (h2 : a1 = 0) : (a2 % 2) = 0 := by omega
theorem tol64 {a0 a1 : Int} (h0 : (1 : Int) ≤ a0) (h1 : a1 = 0) : a1 ≤ a0 := by omega
theorem tol65 {a0 a1 a2 : Int} (h0 : a0 = a1) (h1 : a2 = a0) : a2 = a1 := oz762 h0 h1
theorem tol66 {a0 : Int}  : a0 = a0 := oz34
theorem tol82 {a0 a1 a2 : Int} (h0 : a0 ≤ a1) (h1 : a1 ≤ a2) (h2 : a0 = 1) (h3 : a2 = 5) : ((1 : Int) ≤ a1) ∧ (a1 ≤ 5) := oz1227 h0 h1 h2 h3
theorem tol83 {a0 a1 a2 : Int} (h0 : a0 = (a1 / 10)) (h1 : (0 : Int) ≤ a1) (h2 : (a1 / 10) < a2) : ((0 : Int) ≤ a0) ∧ (a0 < a2) := by omega
theorem tol84 {a0 a1 a2 : Int} (h0 : a0 = (a1 % 10)) (h1 : (a1 % 10) < a2) : ((0 : Int) ≤ a0) ∧ (a0 < a2) := by omega
theorem tol85 {a0 : Int} (h0 : a0 = 0) : a0 < 32 := oz1228 h0
theorem tol86 {a0 : Int} (h0 : a0 = 1) : (0 : Int) ≤ a0 := oz246 h0
theorem tol87 {a0 : Int} (h0 : a0 = 1) : a0 < 32 := oz1229 h0
theorem tol88 {a0 a1 a2 a3 a4 a5 a6 : Int} (h0 : (0 : Int) ≤ a0) (h1 : (a0 / 10) < a1) (h2 : (a0 % 10) < a1) (h3 : (a0 / 10) ≠ (a0 % 10)) (h4 : a2 ≤ a3) (h5 : a3 ≤ a4) (h6 : a5 ≤ a6) (h7 : a6 ≤ a2) (h8 : a2 = 1) (h9 : a4 = 5) (h10 : a5 = 0) : ((0 : Int) ≤ a0) ∧ ((a0 / 10) < a1) ∧ ((a0 % 10) < a1) ∧ ((a0 / 10) ≠ (a0 % 10)) ∧ ((1 : Int) ≤ a3) ∧ (a3 ≤ 5) ∧ ((0 : Int) ≤ a6) ∧ (a6 ≤ 1) := ⟨h0, h1, h2, h3, by omega, by omega, by omega, by omega⟩
theorem tol90 {a0 a1 a2 : Int} (h0 : a0 ≤ a1) (h1 : a2 ≤ a1) (h2 : a1 = a0 ∨ a1 = a2) : (a2 ≤ a1 ∧ a0 ≤ a1) ∧ (a1 = a2 ∨ a1 = a0) := by omega
theorem tol91 {a0 a1 : Int} (h0 : a0 ≠ a1) (h1 : a0 ≤ a1) (h2 : a1 = 1) : ¬ (a0 = 1) := by omega
theorem tol92 {a0 a1 a2 a3 a4 a5 : Int} (h0 : a0 = a1) (h1 : (0 : Int) ≤ a2) (h2 : (a2 / 10) < a3) (h3 : (a2 % 10) < a3) (h4 : (a2 / 10) ≠ (a2 % 10)) (h5 : a1 ≤ a4) (h6 : a4 ≤ a5) (h7 : a0 ≤ a1) (h8 : a1 = 1) (h9 : a5 = 5) : ((0 : Int) ≤ a2) ∧ ((a2 / 10) < a3) ∧ ((a2 % 10) < a3) ∧ ((a2 / 10) ≠ (a2 % 10)) ∧ ((1 : Int) ≤ a4) ∧ (a4 ≤ 5) ∧ ((0 : Int) ≤ a0) ∧ (a0 ≤ 1) := ⟨h1, h2, h3, h4, by omega, by omega, by omega, by omega⟩
theorem tol93 {a0 a1 : Int} (h0 : a0 = a1) (h1 : a1 = 1) : ¬ (a0 = 0) := oz1174 h0 h1
theorem tol95 {a0 a1 : Int} (h0 : a0 ≤ a1) : ¬ (a1 < a0) := toy131 h0
theorem tol96 {a0 : Int} (h0 : a0 = 0) : a0 = 0 := oz236 h0
theorem tol97 {a0 : Int} (h0 : a0 = 1) : a0 = 1 := oz1381 h0
theorem tol98 {a0 a1 a2 a3 a4 a5 : Int} (h0 : ¬ ((a0 ≤ a1) ∧ (a1 ≤ a2))) (h1 : a0 = 0) (h2 : a2 = 1) : ¬ (((0 : Int) ≤ a3) ∧ ((a3 / 10) < a4) ∧ ((a3 % 10) < a4) ∧ ((a3 / 10) ≠ (a3 % 10)) ∧ ((1 : Int) ≤ a5) ∧ (a5 ≤ 5) ∧ ((0 : Int) ≤ a1) ∧ (a1 ≤ 1)) := by omega
theorem tol99 {a0 a1 a2 a3 a4 a5 : Int} (h0 : ¬ ((a0 ≤ a1) ∧ (a1 ≤ a2))) (h1 : a0 = 1) (h2 : a2 = 5) : ¬ (((0 : Int) ≤ a3) ∧ ((a3 / 10) < a4) ∧ ((a3 % 10) < a4) ∧ ((a3 / 10) ≠ (a3 % 10)) ∧ ((1 : Int) ≤ a1) ∧ (a1 ≤ 5) ∧ ((0 : Int) ≤ a5) ∧ (a5 ≤ 1)) := by omega
theorem tol100 {a0 a1 a2 a3 : Int} (h0 : ¬ (((0 : Int) ≤ a0) ∧ (((a0 / 10) < a1) ∧ ((a0 % 10) < a1)) ∧ ((a0 / 10) ≠ (a0 % 10)))) : ¬ (((0 : Int) ≤ a0) ∧ ((a0 / 10) < a1) ∧ ((a0 % 10) < a1) ∧ ((a0 / 10) ≠ (a0 % 10)) ∧ ((1 : Int) ≤ a2) ∧ (a2 ≤ 5) ∧ ((0 : Int) ≤ a3) ∧ (a3 ≤ 1)) := by omega
def yw77_49_1 : kW := ([645, 3200, 3206, 3207, 3208, 3209, 3214, 3215, 3216, 3586, 3781, 6405], [13, 51, 52, 53, 54, 55, 57, 58, 62, 63, 65, 66, 67, 68, 69, 70, 71, 72, 73, 79, 103], [], [1])
def yw77_49_1_L3 : kW := ([645, 3200, 3206, 3207, 3208, 3209, 3214, 3215, 3216, 3586, 3781, 6405], [13, 51, 52, 53, 54, 55, 57, 58, 62, 63, 65, 66, 67, 68, 69, 70, 71, 72, 73, 79, 103], [], [1])
def yw77_49_1_L110 : kW := ([], [79], [], [])
def yw77_49_1_L118 : kW := ([], [79], [], [])
def yw77_49_1_L23 : kW := ([645, 3209, 3214, 3215, 3216, 3586, 3781, 6405], [13, 51, 55, 57, 58, 62, 63, 65, 66, 67, 68, 69, 70, 71, 72, 73, 103], [], [])
set_option maxRecDepth 100000 in
theorem ke77_49_1 {i : Nat → Int32} {a : Nat → List Int32} {q : Nat → List Int64} {r : Nat → Nat} (hI : kI i a q) (hr : kr r) (x2 : Int32) (x3 : Int32) (x4 : Int32) (hp0 : ((1 : Int) ≤ x4.toInt) ∧ (x4.toInt ≤ 5)) (hp1 : ((0 : Int) ≤ x2.toInt) ∧ (x2.toInt < (i 64).toInt)) (hp2 : ((0 : Int) ≤ x3.toInt) ∧ (x3.toInt < (i 64).toInt)) (hN : kNoW i a r) : km 9 77 [.ref 49, .ref 1, .int x2, .int x3, .int x4] (ks i a q r) (kVN yw77_49_1 i a q r (fun i1 a1 q1 r1 => (True) ∧ ((a1 79).getD 0 0 = gTv (gKn i a) x2 x3 x4.toInt.toNat (x4.toInt.toNat - 1) (a 118) ∧ (a1 79).getD 1 0 = gTv (gKn i a) x2 x3 x4.toInt.toNat (x4.toInt.toNat - 1) (gNx (gKn i a) x2 (a 118))))) := by
  have hG := kG_self yw77_49_1 hI hr
  refine km_ofN (q := (mi_h77, mi_c77)) rfl (by decide) (Nat.le_of_ble_eq_true rfl) ?_
  intro P hP
  refine ft_go mi_k77 2 3 [(5, .int 0), (0, .ref 49), (1, .ref 1), (2, .int x2), (3, .int x3), (4, .int x4)] [] i a q r (by rfl) ?_
  have lp1 : ∀ (nz : Nat) (i1 : Nat → Int32) (a1 : Nat → List Int32) (q1 : Nat → List Int64) (r1 : Nat → Nat) (l5_1 : Int32), kG yw77_49_1_L3 i a q r i1 a1 q1 r1 → (0 : Int) ≤ l5_1.toInt → (i1 64).toInt = (i 64).toInt → kOc (a1 79) l5_1.toInt (gVl (gKn i a) x2 x3 (a 118) x4.toInt.toNat x4.toInt.toNat) → ((32 - l5_1.toInt)).toNat < nz → ko 9 (mi_h77, mi_c77) P (3, [(5, .int l5_1), (0, .ref 49), (1, .ref 1), (2, .int x2), (3, .int x3), (4, .int x4)], [], (0, 0), ks i1 a1 q1 r1) := by
    intro nz
    induction nz with
    | zero =>
      intro _ _ _ _ _ _ _ _ _ hm
      exact absurd hm (Nat.not_lt_zero _)
    | succ nz ih1 =>
      intro i1 a1 q1 r1 l5_1 hL1 p1_0 p1_1 O1_0 hm1
      have efi1_64 : (i1 64).toInt = (i 64).toInt := hL1.ti 64 rfl
      have s2 : ((1 : Int) ≤ (1 <<< (x4 &&& 31)).toInt) ∧ ((1 <<< (x4 &&& 31)).toInt ≤ 256) := kd_shl1 (tol0 hp0.1) (tol1 hp0.2)
      have s3 : (1 <<< (x4 &&& 31)).toInt ≤ 32 := kd_shl32 (tol0 hp0.1) (tol2 hp0.2)
      refine ft_go mi_k77 4 9 [(5, .int l5_1), (0, .ref 49), (1, .ref 1), (2, .int x2), (3, .int x3), (4, .int x4)] [.int (1 <<< (x4 &&& 31)), .int l5_1] i1 a1 q1 r1 (by rfl) ?_
      refine ft_if mi_k77 (decide ((1 <<< (x4 &&& 31)) ≤ l5_1)) 104 12 [(5, .int l5_1), (0, .ref 49), (1, .ref 1), (2, .int x2), (3, .int x3), (4, .int x4)] [] (by rfl) (fun c => ?_) (fun c => ?_)
      ·
        have c4 : (1 <<< (x4 &&& 31)).toInt ≤ l5_1.toInt := kd_le c; clear c
        have hG5 := kG_call hG hL1 (by decide +kernel)
        have s6 : (x4 - 1).toInt = x4.toInt - (1 : Int32).toInt := kd_sub (tol3 hp0.1 ktol1) (tol4 hp0.2 ktol1)
        refine ft_go mi_k77 4 110 [(5, .int (x4 - 1)), (0, .ref 49), (1, .ref 1), (2, .int x2), (3, .int x3), (4, .int x4)] [] i1 a1 q1 r1 (by rfl) ?_
        have lp7 : ∀ (nz : Nat) (i7 : Nat → Int32) (a7 : Nat → List Int32) (q7 : Nat → List Int64) (r7 : Nat → Nat) (l5_7 : Int32), kG yw77_49_1_L110 i1 a1 q1 r1 i7 a7 q7 r7 → (0 : Int) ≤ l5_7.toInt → (l5_7.toInt + 1) ≤ x4.toInt → kOc (a7 79) ((2 ^ (l5_7.toInt.toNat + 1) : Nat) : Int) (gVl (gKn i a) x2 x3 (a 118) x4.toInt.toNat (l5_7.toInt.toNat + 1)) → (l5_7.toInt).toNat < nz → ko 9 (mi_h77, mi_c77) P (110, [(5, .int l5_7), (0, .ref 49), (1, .ref 1), (2, .int x2), (3, .int x3), (4, .int x4)], [], (0, 0), ks i7 a7 q7 r7) := by
          intro nz
          induction nz with
          | zero =>
            intro _ _ _ _ _ _ _ _ _ hm
            exact absurd hm (Nat.not_lt_zero _)
          | succ nz ih7 =>
            intro i7 a7 q7 r7 l5_7 hL7 p7_0 p7_1 O7_0 hm7
            refine ft_go mi_k77 1 112 [(5, .int l5_7), (0, .ref 49), (1, .ref 1), (2, .int x2), (3, .int x3), (4, .int x4)] [.int l5_7] i7 a7 q7 r7 (by rfl) ?_
            refine ft_if mi_k77 (decide (l5_7 ≤ 0)) 194 115 [(5, .int l5_7), (0, .ref 49), (1, .ref 1), (2, .int x2), (3, .int x3), (4, .int x4)] [] (by rfl) (fun c => ?_) (fun c => ?_)
            ·
              have c8 : l5_7.toInt ≤ (0 : Int32).toInt := kd_le c; clear c
              have hG9 := kG_call hG5 hL7 (by decide +kernel)
              exact ft_ret mi_k77 (by rfl) (hP  _ _ _ _ hG9 ⟨trivial, (kOc_end O7_0 (tol5 c8 p7_0 ktol0))⟩)
            ·
              have c10 : (0 : Int32).toInt < l5_7.toInt := kd_leF c; clear c
              refine ft_go mi_k77 2 118 [(6, .int 0), (5, .int l5_7), (0, .ref 49), (1, .ref 1), (2, .int x2), (3, .int x3), (4, .int x4)] [] i7 a7 q7 r7 (by rfl) ?_
              have lp11 : ∀ (nz : Nat) (i11 : Nat → Int32) (a11 : Nat → List Int32) (q11 : Nat → List Int64) (r11 : Nat → Nat) (l6_11 : Int32), kG yw77_49_1_L118 i7 a7 q7 r7 i11 a11 q11 r11 → (0 : Int) ≤ l6_11.toInt → kOl (a11 79) (gVl (gKn i a) x2 x3 (a 118) x4.toInt.toNat (l5_7.toInt.toNat)) (gVl (gKn i a) x2 x3 (a 118) x4.toInt.toNat (l5_7.toInt.toNat + 1)) l6_11.toInt l5_7.toInt.toNat → ((16 - l6_11.toInt)).toNat < nz → ko 9 (mi_h77, mi_c77) P (118, [(6, .int l6_11), (5, .int l5_7), (0, .ref 49), (1, .ref 1), (2, .int x2), (3, .int x3), (4, .int x4)], [], (0, 0), ks i11 a11 q11 r11) := by
                intro nz
                induction nz with
                | zero =>
                  intro _ _ _ _ _ _ _ _ hm
                  exact absurd hm (Nat.not_lt_zero _)
                | succ nz ih11 =>
                  intro i11 a11 q11 r11 l6_11 hL11 p11_0 O11_0 hm11
                  have s12 : ((1 : Int) ≤ (1 <<< (l5_7 &&& 31)).toInt) ∧ ((1 <<< (l5_7 &&& 31)).toInt ≤ 256) := kd_shl1 (tol6 c10 ktol0) (tol7 hp0.2 p7_1)
                  have s13 : (1 <<< (l5_7 &&& 31)).toInt ≤ 16 := kd_shl16 (tol6 c10 ktol0) (tol8 hp0.2 p7_1)
                  refine ft_go mi_k77 4 124 [(6, .int l6_11), (5, .int l5_7), (0, .ref 49), (1, .ref 1), (2, .int x2), (3, .int x3), (4, .int x4)] [.int (1 <<< (l5_7 &&& 31)), .int l6_11] i11 a11 q11 r11 (by rfl) ?_
                  refine ft_if mi_k77 (decide ((1 <<< (l5_7 &&& 31)) ≤ l6_11)) 188 127 [(6, .int l6_11), (5, .int l5_7), (0, .ref 49), (1, .ref 1), (2, .int x2), (3, .int x3), (4, .int x4)] [] (by rfl) (fun c => ?_) (fun c => ?_)
                  ·
                    have c14 : (1 <<< (l5_7 &&& 31)).toInt ≤ l6_11.toInt := kd_le c; clear c
                    have hG15 := kG_call hL7 hL11 (by decide +kernel)
                    have s16 : (l5_7 + (-1)).toInt = l5_7.toInt + ((-1) : Int32).toInt := kd_add (tol9 c10 ktol0 ktolm1) (tol10 hp0.2 p7_1 ktolm1)
                    refine ft_go mi_k77 2 110 [(5, .int (l5_7 + (-1))), (6, .int l6_11), (0, .ref 49), (1, .ref 1), (2, .int x2), (3, .int x3), (4, .int x4)] [] i11 a11 q11 r11 (by rfl) ?_
                    refine ko_perm [(5, .int (l5_7 + (-1))), (0, .ref 49), (1, .ref 1), (2, .int x2), (3, .int x3), (4, .int x4)] (List.forall_mem_cons.mpr ⟨(List.Mem.head _), (List.forall_mem_cons.mpr ⟨(List.Mem.tail _ (List.Mem.tail _ (List.Mem.head _))), (List.forall_mem_cons.mpr ⟨(List.Mem.tail _ (List.Mem.tail _ (List.Mem.tail _ (List.Mem.head _)))), (List.forall_mem_cons.mpr ⟨(List.Mem.tail _ (List.Mem.tail _ (List.Mem.tail _ (List.Mem.tail _ (List.Mem.head _))))), (List.forall_mem_cons.mpr ⟨(List.Mem.tail _ (List.Mem.tail _ (List.Mem.tail _ (List.Mem.tail _ (List.Mem.tail _ (List.Mem.head _)))))), (List.forall_mem_cons.mpr ⟨(List.Mem.tail _ (List.Mem.tail _ (List.Mem.tail _ (List.Mem.tail _ (List.Mem.tail _ (List.Mem.tail _ (List.Mem.head _))))))), (fun _ h => absurd h List.not_mem_nil)⟩)⟩)⟩)⟩)⟩)⟩) ?_
                    exact ih7 _ _ _ _ _ hG15 (tol11 c10 s16 ktol0 ktolm1) (tol12 p7_1 s16 ktolm1) (kOl_end O11_0 (tol13 c14) (tol14 c10 ktol0) (tol8 hp0.2 p7_1) (tol15 s16 ktolm1)) (kj_meas (tol16 s16 ktolm1) (tol14 c10 ktol0) hm7)
                  ·
                    have c17 : l6_11.toInt < (1 <<< (l5_7 &&& 31)).toInt := kd_leF c; clear c
                    have s18 : (2 * l6_11).toInt = 2 * l6_11.toInt := kd_cmul 2 ktol2 (tol17 p11_0) (tol18 c17 s12.2)
                    refine ft_go mi_k77 5 135 [(6, .int l6_11), (5, .int l5_7), (0, .ref 49), (1, .ref 1), (2, .int x2), (3, .int x3), (4, .int x4)] [.int (2 * l6_11), .ref 79] i11 a11 q11 r11 (by rfl) ?_
                    refine ko_iald3 mi_k77.1 (n := 32) (c := 32) (ax := (0, 0, 0, 0, 0)) (mi_k77.2 _ _ (by rfl)) (by rfl) (ksG79 _ _ _ _) (hL11.I.2.1 79) rfl (tol19 p11_0 s18) (tol20 c17 s13 s18) ?_
                    have s19 : ((2 * l6_11) + 1).toInt = (2 * l6_11).toInt + (1 : Int32).toInt := kd_add (tol21 p11_0 s18 ktol1) (tol22 c17 s12.2 s18 ktol1)
                    refine ft_go mi_k77 8 148 [(7, .int ((a11 79).getD (2 * l6_11).toNatClampNeg 0)), (6, .int l6_11), (5, .int l5_7), (0, .ref 49), (1, .ref 1), (2, .int x2), (3, .int x3), (4, .int x4)] [.int ((2 * l6_11) + 1), .ref 79] i11 a11 q11 r11 (by rfl) ?_
                    refine ko_iald3 mi_k77.1 (n := 32) (c := 32) (ax := (0, 0, 0, 0, 0)) (mi_k77.2 _ _ (by rfl)) (by rfl) (ksG79 _ _ _ _) (hL11.I.2.1 79) rfl (tol23 p11_0 s18 s19 ktol1) (tol24 c17 s13 s18 s19 ktol1) ?_
                    have s20 : (l5_7 - l5_7 / 2 * 2).toInt = (l5_7.toInt % 2) := kd_rem 2 ktol2 (by decide) (tol6 c10 ktol0)
                    refine ft_go mi_k77 7 161 [(8, .int ((a11 79).getD ((2 * l6_11) + 1).toNatClampNeg 0)), (7, .int ((a11 79).getD (2 * l6_11).toNatClampNeg 0)), (6, .int l6_11), (5, .int l5_7), (0, .ref 49), (1, .ref 1), (2, .int x2), (3, .int x3), (4, .int x4)] [.int (l5_7 - l5_7 / 2 * 2), .int l6_11, .ref 79] i11 a11 q11 r11 (by rfl) ?_
                    refine ft_if mi_k77 ((l5_7 - l5_7 / 2 * 2) != 0) 174 164 [(8, .int ((a11 79).getD ((2 * l6_11) + 1).toNatClampNeg 0)), (7, .int ((a11 79).getD (2 * l6_11).toNatClampNeg 0)), (6, .int l6_11), (5, .int l5_7), (0, .ref 49), (1, .ref 1), (2, .int x2), (3, .int x3), (4, .int x4)] [.int l6_11, .ref 79] (by rfl) (fun c => ?_) (fun c => ?_)
                    ·
                      have c21 : (l5_7 - l5_7 / 2 * 2).toInt ≠ (0 : Int32).toInt := kd_ne c; clear c
                      refine ft_go mi_k77 2 178 [(8, .int ((a11 79).getD ((2 * l6_11) + 1).toNatClampNeg 0)), (7, .int ((a11 79).getD (2 * l6_11).toNatClampNeg 0)), (6, .int l6_11), (5, .int l5_7), (0, .ref 49), (1, .ref 1), (2, .int x2), (3, .int x3), (4, .int x4)] [.int ((a11 79).getD ((2 * l6_11) + 1).toNatClampNeg 0), .int ((a11 79).getD (2 * l6_11).toNatClampNeg 0), .int l6_11, .ref 79] i11 a11 q11 r11 (by rfl) ?_
                      have m23 : (((bif decide (((a11 79).getD ((2 * l6_11) + 1).toNatClampNeg 0) < ((a11 79).getD (2 * l6_11).toNatClampNeg 0)) then ((a11 79).getD ((2 * l6_11) + 1).toNatClampNeg 0) else ((a11 79).getD (2 * l6_11).toNatClampNeg 0)).toInt ≤ ((a11 79).getD (2 * l6_11).toNatClampNeg 0).toInt) ∧ ((bif decide (((a11 79).getD ((2 * l6_11) + 1).toNatClampNeg 0) < ((a11 79).getD (2 * l6_11).toNatClampNeg 0)) then ((a11 79).getD ((2 * l6_11) + 1).toNatClampNeg 0) else ((a11 79).getD (2 * l6_11).toNatClampNeg 0)).toInt ≤ ((a11 79).getD ((2 * l6_11) + 1).toNatClampNeg 0).toInt)) ∧ ((bif decide (((a11 79).getD ((2 * l6_11) + 1).toNatClampNeg 0) < ((a11 79).getD (2 * l6_11).toNatClampNeg 0)) then ((a11 79).getD ((2 * l6_11) + 1).toNatClampNeg 0) else ((a11 79).getD (2 * l6_11).toNatClampNeg 0)).toInt = ((a11 79).getD (2 * l6_11).toNatClampNeg 0).toInt ∨ (bif decide (((a11 79).getD ((2 * l6_11) + 1).toNatClampNeg 0) < ((a11 79).getD (2 * l6_11).toNatClampNeg 0)) then ((a11 79).getD ((2 * l6_11) + 1).toNatClampNeg 0) else ((a11 79).getD (2 * l6_11).toNatClampNeg 0)).toInt = ((a11 79).getD ((2 * l6_11) + 1).toNatClampNeg 0).toInt) := kd_min
                      refine ft_go mi_k77 1 181 [(8, .int ((a11 79).getD ((2 * l6_11) + 1).toNatClampNeg 0)), (7, .int ((a11 79).getD (2 * l6_11).toNatClampNeg 0)), (6, .int l6_11), (5, .int l5_7), (0, .ref 49), (1, .ref 1), (2, .int x2), (3, .int x3), (4, .int x4)] [.int (bif decide (((a11 79).getD ((2 * l6_11) + 1).toNatClampNeg 0) < ((a11 79).getD (2 * l6_11).toNatClampNeg 0)) then ((a11 79).getD ((2 * l6_11) + 1).toNatClampNeg 0) else ((a11 79).getD (2 * l6_11).toNatClampNeg 0)), .int l6_11, .ref 79] i11 a11 q11 r11 (by rfl) ?_
                      generalize hm22 : (bif decide (((a11 79).getD ((2 * l6_11) + 1).toNatClampNeg 0) < ((a11 79).getD (2 * l6_11).toNatClampNeg 0)) then ((a11 79).getD ((2 * l6_11) + 1).toNatClampNeg 0) else ((a11 79).getD (2 * l6_11).toNatClampNeg 0)) = m22 at m23 ⊢
                      have qm22 := hm22.symm
                      refine ko_iast3 mi_k77.1 (n := 32) (c := 32) (ax := (0, 0, 0, 0, 0)) (mi_k77.2 _ _ (by rfl)) (by rfl) (ksG79 _ _ _ _) (ksA79 _ _ _ _) (hL11.I.2.1 79) rfl (tol25 p11_0) (tol26 c17 s13) ?_
                      intro a24 ea24 fa24
                      have hJ24 := kG_a3 hL11 79 rfl ea24 fa24 (kd_bd _)
                      have s25 : (l6_11 + 1).toInt = l6_11.toInt + (1 : Int32).toInt := kd_add (tol27 p11_0 ktol1) (tol28 c17 s12.2 ktol1)
                      refine ft_go mi_k77 2 118 [(6, .int (l6_11 + 1)), (8, .int ((a11 79).getD ((2 * l6_11) + 1).toNatClampNeg 0)), (7, .int ((a11 79).getD (2 * l6_11).toNatClampNeg 0)), (5, .int l5_7), (0, .ref 49), (1, .ref 1), (2, .int x2), (3, .int x3), (4, .int x4)] [] i11 a24 q11 r11 (by rfl) ?_
                      refine ko_perm [(6, .int (l6_11 + 1)), (5, .int l5_7), (0, .ref 49), (1, .ref 1), (2, .int x2), (3, .int x3), (4, .int x4)] (List.forall_mem_cons.mpr ⟨(List.Mem.head _), (List.forall_mem_cons.mpr ⟨(List.Mem.tail _ (List.Mem.tail _ (List.Mem.tail _ (List.Mem.head _)))), (List.forall_mem_cons.mpr ⟨(List.Mem.tail _ (List.Mem.tail _ (List.Mem.tail _ (List.Mem.tail _ (List.Mem.head _))))), (List.forall_mem_cons.mpr ⟨(List.Mem.tail _ (List.Mem.tail _ (List.Mem.tail _ (List.Mem.tail _ (List.Mem.tail _ (List.Mem.head _)))))), (List.forall_mem_cons.mpr ⟨(List.Mem.tail _ (List.Mem.tail _ (List.Mem.tail _ (List.Mem.tail _ (List.Mem.tail _ (List.Mem.tail _ (List.Mem.head _))))))), (List.forall_mem_cons.mpr ⟨(List.Mem.tail _ (List.Mem.tail _ (List.Mem.tail _ (List.Mem.tail _ (List.Mem.tail _ (List.Mem.tail _ (List.Mem.tail _ (List.Mem.head _)))))))), (List.forall_mem_cons.mpr ⟨(List.Mem.tail _ (List.Mem.tail _ (List.Mem.tail _ (List.Mem.tail _ (List.Mem.tail _ (List.Mem.tail _ (List.Mem.tail _ (List.Mem.tail _ (List.Mem.head _))))))))), (fun _ h => absurd h List.not_mem_nil)⟩)⟩)⟩)⟩)⟩)⟩)⟩) ?_
                      exact ih11 _ _ _ _ _ hJ24 (tol29 p11_0 s25 ktol1) (kOl_step (t := l5_7) (y := (2 * l6_11)) (y1 := ((2 * l6_11) + 1)) (o := ((a11 79).getD (2 * l6_11).toNatClampNeg 0)) (w := ((a11 79).getD ((2 * l6_11) + 1).toNatClampNeg 0)) (v := m22) O11_0 (hL11.I.2.1 79) (tol25 p11_0) (tol31 c17) (tol6 c10 ktol0) (tol8 hp0.2 p7_1) (kj_ltn (tol32 p7_1) (tol33 c10 p7_1 ktol0)) (tol34 s25 ktol1) (tol35 s18) (tol36 s18 s19 ktol1) rfl rfl (Or.inr (tol30 c21 m23.1.1 m23.1.2 m23.2 s20 ktol0)) ea24) (kj_meas (tol37 s25 ktol1) (tol38 c17 s13) hm11)
                    ·
                      have c26 : (l5_7 - l5_7 / 2 * 2).toInt = (0 : Int32).toInt := kd_neF c; clear c
                      refine ft_go mi_k77 2 168 [(8, .int ((a11 79).getD ((2 * l6_11) + 1).toNatClampNeg 0)), (7, .int ((a11 79).getD (2 * l6_11).toNatClampNeg 0)), (6, .int l6_11), (5, .int l5_7), (0, .ref 49), (1, .ref 1), (2, .int x2), (3, .int x3), (4, .int x4)] [.int ((a11 79).getD ((2 * l6_11) + 1).toNatClampNeg 0), .int ((a11 79).getD (2 * l6_11).toNatClampNeg 0), .int l6_11, .ref 79] i11 a11 q11 r11 (by rfl) ?_
                      have m28 : ((((a11 79).getD (2 * l6_11).toNatClampNeg 0).toInt ≤ (bif decide (((a11 79).getD (2 * l6_11).toNatClampNeg 0) < ((a11 79).getD ((2 * l6_11) + 1).toNatClampNeg 0)) then ((a11 79).getD ((2 * l6_11) + 1).toNatClampNeg 0) else ((a11 79).getD (2 * l6_11).toNatClampNeg 0)).toInt) ∧ (((a11 79).getD ((2 * l6_11) + 1).toNatClampNeg 0).toInt ≤ (bif decide (((a11 79).getD (2 * l6_11).toNatClampNeg 0) < ((a11 79).getD ((2 * l6_11) + 1).toNatClampNeg 0)) then ((a11 79).getD ((2 * l6_11) + 1).toNatClampNeg 0) else ((a11 79).getD (2 * l6_11).toNatClampNeg 0)).toInt)) ∧ ((bif decide (((a11 79).getD (2 * l6_11).toNatClampNeg 0) < ((a11 79).getD ((2 * l6_11) + 1).toNatClampNeg 0)) then ((a11 79).getD ((2 * l6_11) + 1).toNatClampNeg 0) else ((a11 79).getD (2 * l6_11).toNatClampNeg 0)).toInt = ((a11 79).getD (2 * l6_11).toNatClampNeg 0).toInt ∨ (bif decide (((a11 79).getD (2 * l6_11).toNatClampNeg 0) < ((a11 79).getD ((2 * l6_11) + 1).toNatClampNeg 0)) then ((a11 79).getD ((2 * l6_11) + 1).toNatClampNeg 0) else ((a11 79).getD (2 * l6_11).toNatClampNeg 0)).toInt = ((a11 79).getD ((2 * l6_11) + 1).toNatClampNeg 0).toInt) := kd_max
                      refine ft_go mi_k77 1 171 [(8, .int ((a11 79).getD ((2 * l6_11) + 1).toNatClampNeg 0)), (7, .int ((a11 79).getD (2 * l6_11).toNatClampNeg 0)), (6, .int l6_11), (5, .int l5_7), (0, .ref 49), (1, .ref 1), (2, .int x2), (3, .int x3), (4, .int x4)] [.int (bif decide (((a11 79).getD (2 * l6_11).toNatClampNeg 0) < ((a11 79).getD ((2 * l6_11) + 1).toNatClampNeg 0)) then ((a11 79).getD ((2 * l6_11) + 1).toNatClampNeg 0) else ((a11 79).getD (2 * l6_11).toNatClampNeg 0)), .int l6_11, .ref 79] i11 a11 q11 r11 (by rfl) ?_
                      generalize hm27 : (bif decide (((a11 79).getD (2 * l6_11).toNatClampNeg 0) < ((a11 79).getD ((2 * l6_11) + 1).toNatClampNeg 0)) then ((a11 79).getD ((2 * l6_11) + 1).toNatClampNeg 0) else ((a11 79).getD (2 * l6_11).toNatClampNeg 0)) = m27 at m28 ⊢
                      have qm27 := hm27.symm
                      refine ft_go mi_k77 1 181 [(8, .int ((a11 79).getD ((2 * l6_11) + 1).toNatClampNeg 0)), (7, .int ((a11 79).getD (2 * l6_11).toNatClampNeg 0)), (6, .int l6_11), (5, .int l5_7), (0, .ref 49), (1, .ref 1), (2, .int x2), (3, .int x3), (4, .int x4)] [.int m27, .int l6_11, .ref 79] i11 a11 q11 r11 (by rfl) ?_
                      refine ko_iast3 mi_k77.1 (n := 32) (c := 32) (ax := (0, 0, 0, 0, 0)) (mi_k77.2 _ _ (by rfl)) (by rfl) (ksG79 _ _ _ _) (ksA79 _ _ _ _) (hL11.I.2.1 79) rfl (tol25 p11_0) (tol26 c17 s13) ?_
                      intro a29 ea29 fa29
                      have hJ29 := kG_a3 hL11 79 rfl ea29 fa29 (kd_bd _)
                      have s30 : (l6_11 + 1).toInt = l6_11.toInt + (1 : Int32).toInt := kd_add (tol27 p11_0 ktol1) (tol28 c17 s12.2 ktol1)
                      refine ft_go mi_k77 2 118 [(6, .int (l6_11 + 1)), (8, .int ((a11 79).getD ((2 * l6_11) + 1).toNatClampNeg 0)), (7, .int ((a11 79).getD (2 * l6_11).toNatClampNeg 0)), (5, .int l5_7), (0, .ref 49), (1, .ref 1), (2, .int x2), (3, .int x3), (4, .int x4)] [] i11 a29 q11 r11 (by rfl) ?_
                      refine ko_perm [(6, .int (l6_11 + 1)), (5, .int l5_7), (0, .ref 49), (1, .ref 1), (2, .int x2), (3, .int x3), (4, .int x4)] (List.forall_mem_cons.mpr ⟨(List.Mem.head _), (List.forall_mem_cons.mpr ⟨(List.Mem.tail _ (List.Mem.tail _ (List.Mem.tail _ (List.Mem.head _)))), (List.forall_mem_cons.mpr ⟨(List.Mem.tail _ (List.Mem.tail _ (List.Mem.tail _ (List.Mem.tail _ (List.Mem.head _))))), (List.forall_mem_cons.mpr ⟨(List.Mem.tail _ (List.Mem.tail _ (List.Mem.tail _ (List.Mem.tail _ (List.Mem.tail _ (List.Mem.head _)))))), (List.forall_mem_cons.mpr ⟨(List.Mem.tail _ (List.Mem.tail _ (List.Mem.tail _ (List.Mem.tail _ (List.Mem.tail _ (List.Mem.tail _ (List.Mem.head _))))))), (List.forall_mem_cons.mpr ⟨(List.Mem.tail _ (List.Mem.tail _ (List.Mem.tail _ (List.Mem.tail _ (List.Mem.tail _ (List.Mem.tail _ (List.Mem.tail _ (List.Mem.head _)))))))), (List.forall_mem_cons.mpr ⟨(List.Mem.tail _ (List.Mem.tail _ (List.Mem.tail _ (List.Mem.tail _ (List.Mem.tail _ (List.Mem.tail _ (List.Mem.tail _ (List.Mem.tail _ (List.Mem.head _))))))))), (fun _ h => absurd h List.not_mem_nil)⟩)⟩)⟩)⟩)⟩)⟩)⟩) ?_
                      exact ih11 _ _ _ _ _ hJ29 (tol29 p11_0 s30 ktol1) (kOl_step (t := l5_7) (y := (2 * l6_11)) (y1 := ((2 * l6_11) + 1)) (o := ((a11 79).getD (2 * l6_11).toNatClampNeg 0)) (w := ((a11 79).getD ((2 * l6_11) + 1).toNatClampNeg 0)) (v := m27) O11_0 (hL11.I.2.1 79) (tol25 p11_0) (tol31 c17) (tol6 c10 ktol0) (tol8 hp0.2 p7_1) (kj_ltn (tol32 p7_1) (tol33 c10 p7_1 ktol0)) (tol34 s30 ktol1) (tol35 s18) (tol36 s18 s19 ktol1) rfl rfl (Or.inl (tol39 c26 m28.1.1 m28.1.2 m28.2 s20 ktol0)) ea29) (kj_meas (tol37 s30 ktol1) (tol38 c17 s13) hm11)
              exact lp11 _ _ _ _ _ _ (kG_self _ hL7.I hL7.R) (tol40 ktol0) (kOl_0 O7_0 ktol0) (Nat.lt_succ_self _)
        exact lp7 _ _ _ _ _ _ (kG_self _ hG5.I hG5.R) (tol41 hp0.1 s6 ktol1) (tol42 s6 ktol1) (kOc_lv (n := x4) O1_0 (tol13 c4) (tol43 hp0.1) (tol2 hp0.2) (tol44 s6 ktol1)) (Nat.lt_succ_self _)
      ·
        have c31 : l5_1.toInt < (1 <<< (x4 &&& 31)).toInt := kd_leF c; clear c
        refine ft_go mi_k77 3 17 [(5, .int l5_1), (0, .ref 49), (1, .ref 1), (2, .int x2), (3, .int x3), (4, .int x4)] [.ref 1, .ref 50] i1 a1 q1 r1 (by rfl) ?_
        have hG32 := kG_call hG hL1 (by decide +kernel)
        refine ko_callN mi_k77.1 (pc := 17) (ls := [(5, .int l5_1), (0, .ref 49), (1, .ref 1), (2, .int x2), (3, .int x3), (4, .int x4)]) (st := [.ref 1, .ref 50]) (h := ks i1 a1 q1 r1) (i := (.invokevirtual 56, 3, 34, 0, 9, 0, 212)) (mi_k77.2 _ _ (by rfl)) (ft_invS mi_pq34 (by rfl)) (cy := mi_c34) mi_pq34 rfl (kg34_50_1 hL1.I hL1.R (kNoW_fr hG32 (by decide +kernel) hr hN)) (by decide) ?_
        intro ig33 ag33 qg33 rg33 kg33 hg33
        have hGg33 := kG_call hL1 kg33 (by decide +kernel)
        obtain ⟨hg33, og33⟩ := hg33
        have tT34 : kThm ig33 ag33 rg33 (gB i1 a1) := og33
        refine ft_go mi_k77 2 23 [(6, .int 0), (5, .int l5_1), (0, .ref 49), (1, .ref 1), (2, .int x2), (3, .int x3), (4, .int x4)] [] ig33 ag33 qg33 rg33 (by rfl) ?_
        have lp35 : ∀ (nz : Nat) (i35 : Nat → Int32) (a35 : Nat → List Int32) (q35 : Nat → List Int64) (r35 : Nat → Nat) (l6_35 : Int32), kG yw77_49_1_L23 ig33 ag33 qg33 rg33 i35 a35 q35 r35 → (0 : Int) ≤ l6_35.toInt → l6_35.toInt ≤ x4.toInt → (i35 64).toInt = (i 64).toInt → (∃ S : gS, kThm i35 a35 r35 S ∧ S.1 = gPq (gKn i a) x2 x3 (a 118) l6_35.toInt.toNat (l5_1.toInt.toNat / 2 ^ (x4.toInt.toNat - l6_35.toInt.toNat))) → ((x4.toInt - l6_35.toInt)).toNat < nz → ko 9 (mi_h77, mi_c77) P (23, [(6, .int l6_35), (5, .int l5_1), (0, .ref 49), (1, .ref 1), (2, .int x2), (3, .int x3), (4, .int x4)], [], (0, 0), ks i35 a35 q35 r35) := by
          intro nz
          induction nz with
          | zero =>
            intro _ _ _ _ _ _ _ _ _ _ hm
            exact absurd hm (Nat.not_lt_zero _)
          | succ nz ih35 =>
            intro i35 a35 q35 r35 l6_35 hL35 p35_0 p35_1 p35_2 O35_0 hm35
            have efig33_64 : (ig33 64).toInt = (i1 64).toInt := kg33.ti 64 rfl
            have efi35_64 : (i35 64).toInt = (ig33 64).toInt := hL35.ti 64 rfl
            obtain ⟨S36, hT37, hS38⟩ := O35_0
            refine ft_go mi_k77 2 27 [(6, .int l6_35), (5, .int l5_1), (0, .ref 49), (1, .ref 1), (2, .int x2), (3, .int x3), (4, .int x4)] [.int x4, .int l6_35] i35 a35 q35 r35 (by rfl) ?_
            refine ft_if mi_k77 (decide (x4 ≤ l6_35)) 72 30 [(6, .int l6_35), (5, .int l5_1), (0, .ref 49), (1, .ref 1), (2, .int x2), (3, .int x3), (4, .int x4)] [] (by rfl) (fun c => ?_) (fun c => ?_)
            ·
              have c39 : x4.toInt ≤ l6_35.toInt := kd_le c; clear c
              have hG40 := kG_call hGg33 hL35 (by decide +kernel)
              have hG41 := kG_call hG hG40 (by decide +kernel)
              refine ft_go mi_k77 7 84 [(6, .int l6_35), (5, .int l5_1), (0, .ref 49), (1, .ref 1), (2, .int x2), (3, .int x3), (4, .int x4)] [.int 0, .int x2, .ref 50, .int l5_1, .ref 79] i35 a35 q35 r35 (by rfl) ?_
              refine ko_callPI mi_k77.1 (pc := 84) (ls := [(6, .int l6_35), (5, .int l5_1), (0, .ref 49), (1, .ref 1), (2, .int x2), (3, .int x3), (4, .int x4)]) (st := [.int 0, .int x2, .ref 50, .int l5_1, .ref 79]) (h := ks i35 a35 q35 r35) (i := (.invokevirtual 85, 3, 27, 0, 9, 0, 240)) (mi_k77.2 _ _ (by rfl)) (ft_invS mi_pq27 (by rfl)) (cy := mi_c27) mi_pq27 rfl (ke27_50 hG40.I hG40.R x2 0) (by decide) ?_
              intro vg42 hg42
              obtain ⟨hg42, og42⟩ := hg42
              have q43 : vg42 = cGet (i35 3200) x2 (0 : Int32) (a35 51, a35 52, a35 53, a35 54, i35 3206, i35 3207, i35 3208) := og42
              refine ft_go mi_k77 4 93 [(6, .int l6_35), (5, .int l5_1), (0, .ref 49), (1, .ref 1), (2, .int x2), (3, .int x3), (4, .int x4)] [.int 0, .int x3, .ref 50, .int vg42, .int l5_1, .ref 79] i35 a35 q35 r35 (by rfl) ?_
              refine ko_callPI mi_k77.1 (pc := 93) (ls := [(6, .int l6_35), (5, .int l5_1), (0, .ref 49), (1, .ref 1), (2, .int x2), (3, .int x3), (4, .int x4)]) (st := [.int 0, .int x3, .ref 50, .int vg42, .int l5_1, .ref 79]) (h := ks i35 a35 q35 r35) (i := (.invokevirtual 85, 3, 27, 0, 9, 0, 240)) (mi_k77.2 _ _ (by rfl)) (ft_invS mi_pq27 (by rfl)) (cy := mi_c27) mi_pq27 rfl (ke27_50 hG40.I hG40.R x3 0) (by decide) ?_
              intro vg44 hg44
              obtain ⟨hg44, og44⟩ := hg44
              have q45 : vg44 = cGet (i35 3200) x3 (0 : Int32) (a35 51, a35 52, a35 53, a35 54, i35 3206, i35 3207, i35 3208) := og44
              have b46 : ((-2147483648 : Int) ≤ vg42.toInt) ∧ (vg42.toInt ≤ 2147483647) := kd_bd vg42
              have b47 : ((-2147483648 : Int) ≤ vg44.toInt) ∧ (vg44.toInt ≤ 2147483647) := kd_bd vg44
              refine ft_go mi_k77 1 97 [(6, .int l6_35), (5, .int l5_1), (0, .ref 49), (1, .ref 1), (2, .int x2), (3, .int x3), (4, .int x4)] [.int (vg42 - vg44), .int l5_1, .ref 79] i35 a35 q35 r35 (by rfl) ?_
              refine ko_iast3 mi_k77.1 (n := 32) (c := 32) (ax := (0, 0, 0, 0, 0)) (mi_k77.2 _ _ (by rfl)) (by rfl) (ksG79 _ _ _ _) (ksA79 _ _ _ _) (hG40.I.2.1 79) rfl (tol25 p1_0) (tol45 c31 s3) ?_
              intro a48 ea48 fa48
              have hJ48 := kG_a3 hG40 79 rfl ea48 fa48 (kd_bd _)
              have s49 : (l5_1 + 1).toInt = l5_1.toInt + (1 : Int32).toInt := kd_add (tol27 p1_0 ktol1) (tol28 c31 s2.2 ktol1)
              refine ft_go mi_k77 2 3 [(5, .int (l5_1 + 1)), (6, .int l6_35), (0, .ref 49), (1, .ref 1), (2, .int x2), (3, .int x3), (4, .int x4)] [] i35 a48 q35 r35 (by rfl) ?_
              refine ko_perm [(5, .int (l5_1 + 1)), (0, .ref 49), (1, .ref 1), (2, .int x2), (3, .int x3), (4, .int x4)] (List.forall_mem_cons.mpr ⟨(List.Mem.head _), (List.forall_mem_cons.mpr ⟨(List.Mem.tail _ (List.Mem.tail _ (List.Mem.head _))), (List.forall_mem_cons.mpr ⟨(List.Mem.tail _ (List.Mem.tail _ (List.Mem.tail _ (List.Mem.head _)))), (List.forall_mem_cons.mpr ⟨(List.Mem.tail _ (List.Mem.tail _ (List.Mem.tail _ (List.Mem.tail _ (List.Mem.head _))))), (List.forall_mem_cons.mpr ⟨(List.Mem.tail _ (List.Mem.tail _ (List.Mem.tail _ (List.Mem.tail _ (List.Mem.tail _ (List.Mem.head _)))))), (List.forall_mem_cons.mpr ⟨(List.Mem.tail _ (List.Mem.tail _ (List.Mem.tail _ (List.Mem.tail _ (List.Mem.tail _ (List.Mem.tail _ (List.Mem.head _))))))), (fun _ h => absurd h List.not_mem_nil)⟩)⟩)⟩)⟩)⟩)⟩) ?_
              have hG50 := kG_call hG hJ48 (by decide +kernel)
              exact ih1 _ _ _ _ _ hJ48 (tol29 p1_0 s49 ktol1) (tol46 efi1_64 efi35_64 efig33_64) (kOc_step (m := 32) (kOc_c O1_0 ((hL35.fa 79 rfl).trans (kg33.fa 79 rfl)) (Int.le_refl _)) (hG40.I.2.1 79) (tol25 p1_0) (tol48 c31 s3) (tol34 s49 ktol1) ea48 (gVl_leaf (n := x4) (c := l5_1) hS38 (tol47 c39 p35_1) (th_pu2 hT37 (hG41.fi 64 rfl) (kI_64 hI).2 ⟨(tol25 hp1.1), (tol31 hp1.2)⟩ q43) (th_pu2 hT37 (hG41.fi 64 rfl) (kI_64 hI).2 ⟨(tol25 hp2.1), (tol31 hp2.2)⟩ q45))) (kj_meas (tol49 s49 ktol1) (tol50 c31 s3) hm1)
            ·
              have c51 : l6_35.toInt < x4.toInt := kd_leF c; clear c
              have s52 : (x4 - 1).toInt = x4.toInt - (1 : Int32).toInt := kd_sub (tol3 hp0.1 ktol1) (tol4 hp0.2 ktol1)
              have s53 : ((x4 - 1) - l6_35).toInt = (x4 - 1).toInt - l6_35.toInt := kd_sub (tol51 c51 s52 ktol1) (tol52 hp0.2 p35_0 s52 ktol1)
              refine ft_go mi_k77 10 43 [(6, .int l6_35), (5, .int l5_1), (0, .ref 49), (1, .ref 1), (2, .int x2), (3, .int x3), (4, .int x4)] [.int 1, .int ((l5_1 >>> (((x4 - 1) - l6_35) &&& 31)) &&& 1)] i35 a35 q35 r35 (by rfl) ?_
              refine ft_if mi_k77 (((l5_1 >>> (((x4 - 1) - l6_35) &&& 31)) &&& 1) != 1) 66 46 [(6, .int l6_35), (5, .int l5_1), (0, .ref 49), (1, .ref 1), (2, .int x2), (3, .int x3), (4, .int x4)] [] (by rfl) (fun c => ?_) (fun c => ?_)
              ·
                have c54 : ((l5_1 >>> (((x4 - 1) - l6_35) &&& 31)) &&& 1).toInt ≠ (1 : Int32).toInt := kd_ne c; clear c
                have s55 : (l6_35 + 1).toInt = l6_35.toInt + (1 : Int32).toInt := kd_add (tol27 p35_0 ktol1) (tol53 c51 hp0.2 ktol1)
                refine ft_go mi_k77 2 23 [(6, .int (l6_35 + 1)), (5, .int l5_1), (0, .ref 49), (1, .ref 1), (2, .int x2), (3, .int x3), (4, .int x4)] [] i35 a35 q35 r35 (by rfl) ?_
                exact ih35 _ _ _ _ _ hL35 (tol29 p35_0 s55 ktol1) (tol54 c51 s55 ktol1) (tol46 efi1_64 efi35_64 efig33_64) ⟨_, hT37, (gPq_no (n := x4) (c := l5_1) (s := ((x4 - 1) - l6_35)) hS38 (tol25 p35_0) (tol31 c51) (tol2 hp0.2) (tol34 s55 ktol1) (tol25 p1_0) (tol45 c31 s3) (tol55 s52 s53 ktol1) (tol56 c54 ktol1))⟩ (kj_meas (tol57 s55 ktol1) (tol58 c51) hm35)
              ·
                have c56 : ((l5_1 >>> (((x4 - 1) - l6_35) &&& 31)) &&& 1).toInt = (1 : Int32).toInt := kd_neF c; clear c
                have s57 : (l6_35 - l6_35 / 2 * 2).toInt = (l6_35.toInt % 2) := kd_rem 2 ktol2 (by decide) (tol25 p35_0)
                refine ft_go mi_k77 5 54 [(6, .int l6_35), (5, .int l5_1), (0, .ref 49), (1, .ref 1), (2, .int x2), (3, .int x3), (4, .int x4)] [.int (l6_35 - l6_35 / 2 * 2), .ref 50] i35 a35 q35 r35 (by rfl) ?_
                refine ft_if mi_k77 ((l6_35 - l6_35 / 2 * 2) != 0) 61 57 [(6, .int l6_35), (5, .int l5_1), (0, .ref 49), (1, .ref 1), (2, .int x2), (3, .int x3), (4, .int x4)] [.ref 50] (by rfl) (fun c => ?_) (fun c => ?_)
                ·
                  have c58 : (l6_35 - l6_35 / 2 * 2).toInt ≠ (0 : Int32).toInt := kd_ne c; clear c
                  have hG59 := kG_call hGg33 hL35 (by decide +kernel)
                  have hG60 := kG_call hG hG59 (by decide +kernel)
                  have hc61 : (i35 3200).toInt = (i 64).toInt := congrArg Int32.toInt (hT37.1.1.trans (hG60.fi 64 rfl))
                  refine ft_go mi_k77 1 62 [(6, .int l6_35), (5, .int l5_1), (0, .ref 49), (1, .ref 1), (2, .int x2), (3, .int x3), (4, .int x4)] [.int x3, .ref 50] i35 a35 q35 r35 (by rfl) ?_
                  refine ko_callI mi_k77.1 (pc := 62) (ls := [(6, .int l6_35), (5, .int l5_1), (0, .ref 49), (1, .ref 1), (2, .int x2), (3, .int x3), (4, .int x4)]) (st := [.int x3, .ref 50]) (h := ks i35 a35 q35 r35) (i := (.invokevirtual 63, 3, 29, 0, 9, 0, 220)) (mi_k77.2 _ _ (by rfl)) (ft_invS mi_pq29 (by rfl)) (cy := mi_c29) mi_pq29 rfl (kg29_50 hL35.I hL35.R x3 (tol59 hc61 hp2.1 hp2.2) (kNoW_fr hG60 (by decide +kernel) hr hN) hT37) (by decide) ?_
                  intro vg62 ig62 ag62 qg62 rg62 kg62 hg62
                  have hGg62 := kG_call hL35 kg62 (by decide +kernel)
                  obtain ⟨hg62, og62⟩ := hg62
                  have hG64 := kG_call hGg33 hL35 (by decide +kernel)
                  have hG65 := kG_call hG hG64 (by decide +kernel)
                  have kn63 := (gKn_fr hG65 (by decide +kernel) : gKn i35 a35 = gKn i a)
                  have oT66 := og62
                  rw [kn63] at oT66
                  have tT67 : kThm ig62 ag62 rg62 (gIn (gKn i a) x3 (S36)) := oT66.1
                  have s68 : (l6_35 + 1).toInt = l6_35.toInt + (1 : Int32).toInt := kd_add (tol27 p35_0 ktol1) (tol53 c51 hp0.2 ktol1)
                  refine ft_go mi_k77 3 23 [(6, .int (l6_35 + 1)), (5, .int l5_1), (0, .ref 49), (1, .ref 1), (2, .int x2), (3, .int x3), (4, .int x4)] [] ig62 ag62 qg62 rg62 (by rfl) ?_
                  have efig62_64 : (ig62 64).toInt = (i35 64).toInt := kg62.ti 64 rfl
                  exact ih35 _ _ _ _ _ hGg62 (tol29 p35_0 s68 ktol1) (tol54 c51 s68 ktol1) (tol60 efi1_64 efi35_64 efig33_64 efig62_64) ⟨_, tT67, (gPq_yes (n := x4) (c := l5_1) (s := ((x4 - 1) - l6_35)) hS38 (tol25 p35_0) (tol31 c51) (tol2 hp0.2) (tol34 s68 ktol1) (tol25 p1_0) (tol45 c31 s3) (tol55 s52 s53 ktol1) (Or.inr ⟨(tol61 c58 s57 ktol0), rfl⟩) (tol62 c56 ktol1))⟩ (kj_meas (tol57 s68 ktol1) (tol58 c51) hm35)
                ·
                  have c69 : (l6_35 - l6_35 / 2 * 2).toInt = (0 : Int32).toInt := kd_neF c; clear c
                  have hG70 := kG_call hGg33 hL35 (by decide +kernel)
                  have hG71 := kG_call hG hG70 (by decide +kernel)
                  have hc72 : (i35 3200).toInt = (i 64).toInt := congrArg Int32.toInt (hT37.1.1.trans (hG71.fi 64 rfl))
                  refine ft_go mi_k77 2 62 [(6, .int l6_35), (5, .int l5_1), (0, .ref 49), (1, .ref 1), (2, .int x2), (3, .int x3), (4, .int x4)] [.int x2, .ref 50] i35 a35 q35 r35 (by rfl) ?_
                  refine ko_callI mi_k77.1 (pc := 62) (ls := [(6, .int l6_35), (5, .int l5_1), (0, .ref 49), (1, .ref 1), (2, .int x2), (3, .int x3), (4, .int x4)]) (st := [.int x2, .ref 50]) (h := ks i35 a35 q35 r35) (i := (.invokevirtual 63, 3, 29, 0, 9, 0, 220)) (mi_k77.2 _ _ (by rfl)) (ft_invS mi_pq29 (by rfl)) (cy := mi_c29) mi_pq29 rfl (kg29_50 hL35.I hL35.R x2 (tol59 hc72 hp1.1 hp1.2) (kNoW_fr hG71 (by decide +kernel) hr hN) hT37) (by decide) ?_
                  intro vg73 ig73 ag73 qg73 rg73 kg73 hg73
                  have hGg73 := kG_call hL35 kg73 (by decide +kernel)
                  obtain ⟨hg73, og73⟩ := hg73
                  have hG75 := kG_call hGg33 hL35 (by decide +kernel)
                  have hG76 := kG_call hG hG75 (by decide +kernel)
                  have kn74 := (gKn_fr hG76 (by decide +kernel) : gKn i35 a35 = gKn i a)
                  have oT77 := og73
                  rw [kn74] at oT77
                  have tT78 : kThm ig73 ag73 rg73 (gIn (gKn i a) x2 (S36)) := oT77.1
                  have s79 : (l6_35 + 1).toInt = l6_35.toInt + (1 : Int32).toInt := kd_add (tol27 p35_0 ktol1) (tol53 c51 hp0.2 ktol1)
                  refine ft_go mi_k77 3 23 [(6, .int (l6_35 + 1)), (5, .int l5_1), (0, .ref 49), (1, .ref 1), (2, .int x2), (3, .int x3), (4, .int x4)] [] ig73 ag73 qg73 rg73 (by rfl) ?_
                  have efig73_64 : (ig73 64).toInt = (i35 64).toInt := kg73.ti 64 rfl
                  exact ih35 _ _ _ _ _ hGg73 (tol29 p35_0 s79 ktol1) (tol54 c51 s79 ktol1) (tol60 efi1_64 efi35_64 efig33_64 efig73_64) ⟨_, tT78, (gPq_yes (n := x4) (c := l5_1) (s := ((x4 - 1) - l6_35)) hS38 (tol25 p35_0) (tol31 c51) (tol2 hp0.2) (tol34 s79 ktol1) (tol25 p1_0) (tol45 c31 s3) (tol55 s52 s53 ktol1) (Or.inl ⟨(tol63 c69 s57 ktol0), rfl⟩) (tol62 c56 ktol1))⟩ (kj_meas (tol57 s79 ktol1) (tol58 c51) hm35)
        have efig33_64 : (ig33 64).toInt = (i1 64).toInt := kg33.ti 64 rfl
        exact lp35 _ _ _ _ _ _ (kG_self _ hGg33.I hGg33.R) (tol40 ktol0) (tol64 hp0.1 ktol0) (tol65 efi1_64 efig33_64) ⟨_, tT34, gPq_0c ((hL1.fa 118 rfl) : a1 118 = a 118) ktol0⟩ (Nat.lt_succ_self _)
  exact lp1 _ _ _ _ _ _ (kG_self _ hG.I hG.R) (tol40 ktol0) tol66 (kOc_0 (Int.le_of_eq ktol0)) (Nat.lt_succ_self _)
def yw100_0 : kW := ([645, 3200, 3206, 3207, 3208, 3209, 3214, 3215, 3216, 3586, 3781, 6405], [13, 51, 52, 53, 54, 55, 57, 58, 62, 63, 65, 66, 67, 68, 69, 70, 71, 72, 73, 79, 103], [], [1])
set_option maxRecDepth 100000 in
theorem ke100_0 {i : Nat → Int32} {a : Nat → List Int32} {q : Nat → List Int64} {r : Nat → Nat} (hI : kI i a q) (hr : kr r) (x1 : Int32) (x2 : Int32) (x3 : Int32) (hN : kNoW i a r) : km 11 100 [.ref 0, .int x1, .int x2, .int x3] (ks i a q r) (kVI yw100_0 i a q r (fun v i1 a1 q1 r1 => (True) ∧ cTu (((0 : Int) ≤ x1.toInt) ∧ ((x1.toInt / 10) < (i 64).toInt) ∧ ((x1.toInt % 10) < (i 64).toInt) ∧ ((x1.toInt / 10) ≠ (x1.toInt % 10)) ∧ ((1 : Int) ≤ x2.toInt) ∧ (x2.toInt ≤ 5) ∧ ((0 : Int) ≤ x3.toInt) ∧ (x3.toInt ≤ 1)) v (fTu (gTv (gKn i a) (x1 / 10) (x1 - x1 / 10 * 10) x2.toInt.toNat (x2.toInt.toNat - 1) (a 118)) (gTv (gKn i a) (x1 / 10) (x1 - x1 / 10 * 10) x2.toInt.toNat (x2.toInt.toNat - 1) (gNx (gKn i a) (x1 / 10) (a 118))) v x3))) := by
  have hG := kG_self yw100_0 hI hr
  refine km_ofI (q := (mi_h100, mi_c100)) rfl (by decide) (Nat.le_of_ble_eq_true rfl) ?_
  intro P hP
  refine ft_go mi_k100 2 2 [(0, .ref 0), (1, .int x1), (2, .int x2), (3, .int x3)] [.int x1, .ref 0] i a q r (by rfl) ?_
  refine ko_callPI mi_k100.1 (pc := 2) (ls := [(0, .ref 0), (1, .int x1), (2, .int x2), (3, .int x3)]) (st := [.int x1, .ref 0]) (h := ks i a q r) (i := (.invokevirtual 200, 3, 124, 0, 9, 0, 254)) (mi_k100.2 _ _ (by rfl)) (ft_invS mi_pq124 (by rfl)) (cy := mi_c124) mi_pq124 rfl (kc124_0 hG.I hG.R x1) (by decide) ?_
  intro vg1 hg1
  rcases hg1 with ⟨eg1, hg1⟩ | ⟨eg1, hg1⟩
  ·
    subst eg1
    have z2 : ((0 : Int) ≤ x1.toInt) ∧ (((x1.toInt / 10) < (i 64).toInt) ∧ ((x1.toInt % 10) < (i 64).toInt)) ∧ ((x1.toInt / 10) ≠ (x1.toInt % 10)) := hg1
    refine ft_go mi_k100 4 11 [(0, .ref 0), (1, .int x1), (2, .int x2), (3, .int x3)] [.int 5, .int 1, .int x2] i a q r (by rfl) ?_
    refine ko_callPI mi_k100.1 (pc := 11) (ls := [(0, .ref 0), (1, .int x1), (2, .int x2), (3, .int x3)]) (st := [.int 5, .int 1, .int x2]) (h := ks i a q r) (i := (.invokestatic 74, 3, 120, 0, 9, 0, 152)) (mi_k100.2 _ _ (by rfl)) (ft_invS mi_pq120 (by rfl)) (cy := mi_c120) mi_pq120 rfl (kc120 hG.I hG.R x2 1 5) (by decide) ?_
    intro vg3 hg3
    rcases hg3 with ⟨eg3, hg3⟩ | ⟨eg3, hg3⟩
    ·
      subst eg3
      have z4 : ((1 : Int32).toInt ≤ x2.toInt) ∧ (x2.toInt ≤ (5 : Int32).toInt) := hg3
      refine ft_go mi_k100 4 20 [(0, .ref 0), (1, .int x1), (2, .int x2), (3, .int x3)] [.int 1, .int 0, .int x3] i a q r (by rfl) ?_
      refine ko_callPI mi_k100.1 (pc := 20) (ls := [(0, .ref 0), (1, .int x1), (2, .int x2), (3, .int x3)]) (st := [.int 1, .int 0, .int x3]) (h := ks i a q r) (i := (.invokestatic 74, 3, 120, 0, 9, 0, 152)) (mi_k100.2 _ _ (by rfl)) (ft_invS mi_pq120 (by rfl)) (cy := mi_c120) mi_pq120 rfl (kc120 hG.I hG.R x3 0 1) (by decide) ?_
      intro vg5 hg5
      rcases hg5 with ⟨eg5, hg5⟩ | ⟨eg5, hg5⟩
      ·
        subst eg5
        have z6 : ((0 : Int32).toInt ≤ x3.toInt) ∧ (x3.toInt ≤ (1 : Int32).toInt) := hg5
        have s7 : (x1 / 10).toInt = (x1.toInt / 10) := kd_div 10 ktol10 (by decide) (tol25 z2.1)
        have s8 : (x1 - x1 / 10 * 10).toInt = (x1.toInt % 10) := kd_rem 10 ktol10 (by decide) (tol25 z2.1)
        refine ft_go mi_k100 12 46 [(0, .ref 0), (1, .int x1), (2, .int x2), (3, .int x3)] [.int x2, .int (x1 - x1 / 10 * 10), .int (x1 / 10), .ref 1, .ref 49] i a q r (by rfl) ?_
        refine ko_callN mi_k100.1 (pc := 46) (ls := [(0, .ref 0), (1, .int x1), (2, .int x2), (3, .int x3)]) (st := [.int x2, .int (x1 - x1 / 10 * 10), .int (x1 / 10), .ref 1, .ref 49]) (h := ks i a q r) (i := (.invokevirtual 239, 3, 77, 0, 9, 0, 274)) (mi_k100.2 _ _ (by rfl)) (ft_invS mi_pq77 (by rfl)) (cy := mi_c77) mi_pq77 rfl (ke77_49_1 hG.I hG.R (x1 / 10) (x1 - x1 / 10 * 10) x2 (tol82 z4.1 z4.2 ktol1 ktol5) (tol83 s7 z2.1 z2.2.1.1) (tol84 s8 z2.2.1.2) hN) (by decide) ?_
        intro ig9 ag9 qg9 rg9 kg9 hg9
        have hGg9 := kG_call hG kg9 (by decide +kernel)
        obtain ⟨hg9, og9⟩ := hg9
        have oB10 := og9
        refine ft_go mi_k100 4 57 [(0, .ref 0), (1, .int x1), (2, .int x2), (3, .int x3)] [.int 0, .ref 79] ig9 ag9 qg9 rg9 (by rfl) ?_
        refine ko_iald3 mi_k100.1 (n := 32) (c := 32) (ax := (0, 0, 0, 0, 0)) (mi_k100.2 _ _ (by rfl)) (by rfl) (ksG79 _ _ _ _) (hGg9.I.2.1 79) rfl (tol40 ktol0) (tol85 ktol0) ?_
        refine ft_go mi_k100 5 68 [(4, .int ((ag9 79).getD (0 : Int32).toNatClampNeg 0)), (0, .ref 0), (1, .int x1), (2, .int x2), (3, .int x3)] [.int 1, .ref 79] ig9 ag9 qg9 rg9 (by rfl) ?_
        refine ko_iald3 mi_k100.1 (n := 32) (c := 32) (ax := (0, 0, 0, 0, 0)) (mi_k100.2 _ _ (by rfl)) (by rfl) (ksG79 _ _ _ _) (hGg9.I.2.1 79) rfl (tol86 ktol1) (tol87 ktol1) ?_
        refine ft_go mi_k100 3 73 [(5, .int ((ag9 79).getD (1 : Int32).toNatClampNeg 0)), (4, .int ((ag9 79).getD (0 : Int32).toNatClampNeg 0)), (0, .ref 0), (1, .int x1), (2, .int x2), (3, .int x3)] [.int 1, .int x3] ig9 ag9 qg9 rg9 (by rfl) ?_
        refine ft_if mi_k100 (x3 != 1) 89 76 [(5, .int ((ag9 79).getD (1 : Int32).toNatClampNeg 0)), (4, .int ((ag9 79).getD (0 : Int32).toNatClampNeg 0)), (0, .ref 0), (1, .int x1), (2, .int x2), (3, .int x3)] [] (by rfl) (fun c => ?_) (fun c => ?_)
        ·
          have c11 : x3.toInt ≠ (1 : Int32).toInt := kd_ne c; clear c
          refine ft_go mi_k100 2 93 [(5, .int ((ag9 79).getD (1 : Int32).toNatClampNeg 0)), (4, .int ((ag9 79).getD (0 : Int32).toNatClampNeg 0)), (0, .ref 0), (1, .int x1), (2, .int x2), (3, .int x3)] [.int ((ag9 79).getD (0 : Int32).toNatClampNeg 0), .int ((ag9 79).getD (1 : Int32).toNatClampNeg 0)] ig9 ag9 qg9 rg9 (by rfl) ?_
          have m13 : ((((ag9 79).getD (1 : Int32).toNatClampNeg 0).toInt ≤ (bif decide (((ag9 79).getD (1 : Int32).toNatClampNeg 0) < ((ag9 79).getD (0 : Int32).toNatClampNeg 0)) then ((ag9 79).getD (0 : Int32).toNatClampNeg 0) else ((ag9 79).getD (1 : Int32).toNatClampNeg 0)).toInt) ∧ (((ag9 79).getD (0 : Int32).toNatClampNeg 0).toInt ≤ (bif decide (((ag9 79).getD (1 : Int32).toNatClampNeg 0) < ((ag9 79).getD (0 : Int32).toNatClampNeg 0)) then ((ag9 79).getD (0 : Int32).toNatClampNeg 0) else ((ag9 79).getD (1 : Int32).toNatClampNeg 0)).toInt)) ∧ ((bif decide (((ag9 79).getD (1 : Int32).toNatClampNeg 0) < ((ag9 79).getD (0 : Int32).toNatClampNeg 0)) then ((ag9 79).getD (0 : Int32).toNatClampNeg 0) else ((ag9 79).getD (1 : Int32).toNatClampNeg 0)).toInt = ((ag9 79).getD (1 : Int32).toNatClampNeg 0).toInt ∨ (bif decide (((ag9 79).getD (1 : Int32).toNatClampNeg 0) < ((ag9 79).getD (0 : Int32).toNatClampNeg 0)) then ((ag9 79).getD (0 : Int32).toNatClampNeg 0) else ((ag9 79).getD (1 : Int32).toNatClampNeg 0)).toInt = ((ag9 79).getD (0 : Int32).toNatClampNeg 0).toInt) := kd_max
          refine ft_go mi_k100 1 96 [(5, .int ((ag9 79).getD (1 : Int32).toNatClampNeg 0)), (4, .int ((ag9 79).getD (0 : Int32).toNatClampNeg 0)), (0, .ref 0), (1, .int x1), (2, .int x2), (3, .int x3)] [.int (bif decide (((ag9 79).getD (1 : Int32).toNatClampNeg 0) < ((ag9 79).getD (0 : Int32).toNatClampNeg 0)) then ((ag9 79).getD (0 : Int32).toNatClampNeg 0) else ((ag9 79).getD (1 : Int32).toNatClampNeg 0))] ig9 ag9 qg9 rg9 (by rfl) ?_
          generalize hm12 : (bif decide (((ag9 79).getD (1 : Int32).toNatClampNeg 0) < ((ag9 79).getD (0 : Int32).toNatClampNeg 0)) then ((ag9 79).getD (0 : Int32).toNatClampNeg 0) else ((ag9 79).getD (1 : Int32).toNatClampNeg 0)) = m12 at m13 ⊢
          have qm12 := hm12.symm
          exact ft_ret mi_k100 (by rfl) (hP m12 _ _ _ _ hGg9 ⟨trivial, (Or.inr ⟨(tol88 z2.1 z2.2.1.1 z2.2.1.2 z2.2.2 z4.1 z4.2 z6.1 z6.2 ktol1 ktol5 ktol0), (fTu_of ((show ((ag9 79).getD (0 : Int32).toNatClampNeg 0) = (ag9 79).getD 0 0 from congrArg (fun z : Nat => (ag9 79).getD z 0) (by decide : (0 : Int32).toNatClampNeg = 0)).trans oB10.1) ((show ((ag9 79).getD (1 : Int32).toNatClampNeg 0) = (ag9 79).getD 1 0 from congrArg (fun z : Nat => (ag9 79).getD z 0) (by decide : (1 : Int32).toNatClampNeg = 1)).trans oB10.2) ⟨fun _ => (tol90 m13.1.1 m13.1.2 m13.2), fun h => absurd h (tol91 c11 z6.2 ktol1)⟩)⟩)⟩)
        ·
          have c14 : x3.toInt = (1 : Int32).toInt := kd_neF c; clear c
          refine ft_go mi_k100 2 80 [(5, .int ((ag9 79).getD (1 : Int32).toNatClampNeg 0)), (4, .int ((ag9 79).getD (0 : Int32).toNatClampNeg 0)), (0, .ref 0), (1, .int x1), (2, .int x2), (3, .int x3)] [.int ((ag9 79).getD (0 : Int32).toNatClampNeg 0), .int ((ag9 79).getD (1 : Int32).toNatClampNeg 0)] ig9 ag9 qg9 rg9 (by rfl) ?_
          refine ft_if mi_k100 (decide (((ag9 79).getD (1 : Int32).toNatClampNeg 0) ≤ ((ag9 79).getD (0 : Int32).toNatClampNeg 0))) 87 83 [(5, .int ((ag9 79).getD (1 : Int32).toNatClampNeg 0)), (4, .int ((ag9 79).getD (0 : Int32).toNatClampNeg 0)), (0, .ref 0), (1, .int x1), (2, .int x2), (3, .int x3)] [] (by rfl) (fun c => ?_) (fun c => ?_)
          ·
            have c15 : ((ag9 79).getD (1 : Int32).toNatClampNeg 0).toInt ≤ ((ag9 79).getD (0 : Int32).toNatClampNeg 0).toInt := kd_le c; clear c
            refine ft_go mi_k100 1 88 [(5, .int ((ag9 79).getD (1 : Int32).toNatClampNeg 0)), (4, .int ((ag9 79).getD (0 : Int32).toNatClampNeg 0)), (0, .ref 0), (1, .int x1), (2, .int x2), (3, .int x3)] [.int 0] ig9 ag9 qg9 rg9 (by rfl) ?_
            exact ft_ret mi_k100 (by rfl) (hP 0 _ _ _ _ hGg9 ⟨trivial, (Or.inr ⟨(tol92 c14 z2.1 z2.2.1.1 z2.2.1.2 z2.2.2 z4.1 z4.2 z6.2 ktol1 ktol5), (fTu_of ((show ((ag9 79).getD (0 : Int32).toNatClampNeg 0) = (ag9 79).getD 0 0 from congrArg (fun z : Nat => (ag9 79).getD z 0) (by decide : (0 : Int32).toNatClampNeg = 0)).trans oB10.1) ((show ((ag9 79).getD (1 : Int32).toNatClampNeg 0) = (ag9 79).getD 1 0 from congrArg (fun z : Nat => (ag9 79).getD z 0) (by decide : (1 : Int32).toNatClampNeg = 1)).trans oB10.2) ⟨fun h => absurd h (tol93 c14 ktol1), fun _ => ⟨fun z => absurd z (tol95 c15), fun z => (tol96 ktol0)⟩⟩)⟩)⟩)
          ·
            have c16 : ((ag9 79).getD (0 : Int32).toNatClampNeg 0).toInt < ((ag9 79).getD (1 : Int32).toNatClampNeg 0).toInt := kd_leF c; clear c
            refine ft_go mi_k100 2 88 [(5, .int ((ag9 79).getD (1 : Int32).toNatClampNeg 0)), (4, .int ((ag9 79).getD (0 : Int32).toNatClampNeg 0)), (0, .ref 0), (1, .int x1), (2, .int x2), (3, .int x3)] [.int 1] ig9 ag9 qg9 rg9 (by rfl) ?_
            exact ft_ret mi_k100 (by rfl) (hP 1 _ _ _ _ hGg9 ⟨trivial, (Or.inr ⟨(tol92 c14 z2.1 z2.2.1.1 z2.2.1.2 z2.2.2 z4.1 z4.2 z6.2 ktol1 ktol5), (fTu_of ((show ((ag9 79).getD (0 : Int32).toNatClampNeg 0) = (ag9 79).getD 0 0 from congrArg (fun z : Nat => (ag9 79).getD z 0) (by decide : (0 : Int32).toNatClampNeg = 0)).trans oB10.1) ((show ((ag9 79).getD (1 : Int32).toNatClampNeg 0) = (ag9 79).getD 1 0 from congrArg (fun z : Nat => (ag9 79).getD z 0) (by decide : (1 : Int32).toNatClampNeg = 1)).trans oB10.2) ⟨fun h => absurd h (tol93 c14 ktol1), fun _ => ⟨fun z => (tol97 ktol1), fun z => absurd (tol31 c16) z⟩⟩)⟩)⟩)
      ·
        subst eg5
        have z17 : ¬ (((0 : Int32).toInt ≤ x3.toInt) ∧ (x3.toInt ≤ (1 : Int32).toInt)) := hg5
        refine ft_go mi_k100 2 28 [(0, .ref 0), (1, .int x1), (2, .int x2), (3, .int x3)] [.int (-2000000000)] i a q r (by rfl) ?_
        exact ft_ret mi_k100 (by rfl) (hP (-2000000000) _ _ _ _ hG ⟨trivial, (Or.inl ⟨(tol98 z17 ktol0 ktol1), rfl⟩)⟩)
    ·
      subst eg3
      have z18 : ¬ (((1 : Int32).toInt ≤ x2.toInt) ∧ (x2.toInt ≤ (5 : Int32).toInt)) := hg3
      refine ft_go mi_k100 2 28 [(0, .ref 0), (1, .int x1), (2, .int x2), (3, .int x3)] [.int (-2000000000)] i a q r (by rfl) ?_
      exact ft_ret mi_k100 (by rfl) (hP (-2000000000) _ _ _ _ hG ⟨trivial, (Or.inl ⟨(tol99 z18 ktol1 ktol5), rfl⟩)⟩)
  ·
    subst eg1
    have z19 : ¬ (((0 : Int) ≤ x1.toInt) ∧ (((x1.toInt / 10) < (i 64).toInt) ∧ ((x1.toInt % 10) < (i 64).toInt)) ∧ ((x1.toInt / 10) ≠ (x1.toInt % 10))) := hg1
    refine ft_go mi_k100 2 28 [(0, .ref 0), (1, .int x1), (2, .int x2), (3, .int x3)] [.int (-2000000000)] i a q r (by rfl) ?_
    exact ft_ret mi_k100 (by rfl) (hP (-2000000000) _ _ _ _ hG ⟨trivial, (Or.inl ⟨(tol100 z19), rfl⟩)⟩)
