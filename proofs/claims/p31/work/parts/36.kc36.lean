theorem oz1248 {a0 : Int} (h0 : ¬ (a0 = 2)) (h1 : ¬ (a0 = 3)) (h2 : ¬ (a0 = 4)) (h3 : ¬ (a0 = 5)) (h4 : ¬ (a0 = 0)) (h5 : ¬ (a0 = 1)) (h6 : (0 : Int) ≤ a0) (h7 : a0 ≤ 5) : False := by omega
theorem oz1249 {a0 a1 a2 a3 a4 a5 : Int} (h0 : a0 ≤ 60) (h1 : a1 = a0 - a2) (h2 : (0 : Int) ≤ a3) (h3 : a3 ≤ 5) (h4 : a4 ≤ a5) (h5 : a5 ≤ a1) (h6 : a2 = 1) (h7 : a4 = 0) : (a4 < 0) ∨ ((a4 = 0) ∧ ((0 : Int) ≤ a3) ∧ (a3 ≤ 5) ∧ ((0 : Int) ≤ a5) ∧ (a5 ≤ 59)) := by omega
theorem oz1250 {a0 a1 a2 : Int} (h0 : a0 = (-13)) : (a0 < 0) ∨ ((a0 = 0) ∧ ((0 : Int) ≤ a1) ∧ (a1 ≤ 5) ∧ ((0 : Int) ≤ a2) ∧ (a2 ≤ 59)) := by omega
theorem oz1251 {a0 a1 a2 : Int} (h0 : a0 = (-12)) : (a0 < 0) ∨ ((a0 = 0) ∧ ((0 : Int) ≤ a1) ∧ (a1 ≤ 5) ∧ ((0 : Int) ≤ a2) ∧ (a2 ≤ 59)) := by omega
theorem oz1252 {a0 a1 a2 : Int} (h0 : a0 = (-11)) : (a0 < 0) ∨ ((a0 = 0) ∧ ((0 : Int) ≤ a1) ∧ (a1 ≤ 5) ∧ ((0 : Int) ≤ a2) ∧ (a2 ≤ 59)) := by omega
theorem oz1253 {a0 a1 a2 a3 a4 a5 : Int} (h0 : a0 ≤ 60) (h1 : a1 = a0 - a2) (h2 : a3 = 1) (h3 : a4 ≤ a5) (h4 : a5 ≤ a1) (h5 : a3 ≤ 5) (h6 : a2 = 1) (h7 : a4 = 0) : (a4 < 0) ∨ ((a4 = 0) ∧ ((0 : Int) ≤ a3) ∧ (a3 ≤ 5) ∧ ((0 : Int) ≤ a5) ∧ (a5 ≤ 59)) := by omega
theorem oz1254 {a0 a1 a2 a3 a4 a5 : Int} (h0 : a0 ≤ 60) (h1 : a1 = a0 - a2) (h2 : a3 = 2) (h3 : a3 ≤ 5) (h4 : a4 ≤ a5) (h5 : a5 ≤ a1) (h6 : a2 = 1) (h7 : a4 = 0) : (a4 < 0) ∨ ((a4 = 0) ∧ ((0 : Int) ≤ a3) ∧ (a3 ≤ 5) ∧ ((0 : Int) ≤ a5) ∧ (a5 ≤ 59)) := by omega
theorem oz1255 {a0 a1 a2 a3 a4 a5 : Int} (h0 : a0 ≤ 60) (h1 : a1 = a0 - a2) (h2 : a3 = 3) (h3 : a3 ≤ 5) (h4 : a4 ≤ a5) (h5 : a5 ≤ a1) (h6 : a2 = 1) (h7 : a4 = 0) : (a4 < 0) ∨ ((a4 = 0) ∧ ((0 : Int) ≤ a3) ∧ (a3 ≤ 5) ∧ ((0 : Int) ≤ a5) ∧ (a5 ≤ 59)) := by omega
theorem oz1256 {a0 a1 a2 a3 a4 a5 : Int} (h0 : a0 ≤ 60) (h1 : a1 = a0 - a2) (h2 : a3 = 4) (h3 : a3 ≤ 5) (h4 : a4 ≤ a5) (h5 : a5 ≤ a1) (h6 : a2 = 1) (h7 : a4 = 0) : (a4 < 0) ∨ ((a4 = 0) ∧ ((0 : Int) ≤ a3) ∧ (a3 ≤ 5) ∧ ((0 : Int) ≤ a5) ∧ (a5 ≤ 59)) := by omega
theorem oz1257 {a0 a1 a2 a3 a4 a5 : Int} (h0 : a0 ≤ 60) (h1 : a1 = a0 - a2) (h2 : a3 = 5) (h3 : a3 ≤ 5) (h4 : a4 ≤ a5) (h5 : a5 ≤ a1) (h6 : a2 = 1) (h7 : a4 = 0) : (a4 < 0) ∨ ((a4 = 0) ∧ ((0 : Int) ≤ a3) ∧ (a3 ≤ 5) ∧ ((0 : Int) ≤ a5) ∧ (a5 ≤ 59)) := by omega
theorem oz1258 {a0 a1 a2 : Int} (h0 : a0 = (-1)) : (a0 < 0) ∨ ((a0 = 0) ∧ ((0 : Int) ≤ a1) ∧ (a1 ≤ 5) ∧ ((0 : Int) ≤ a2) ∧ (a2 ≤ 59)) := by omega
theorem oz1259 {a0 a1 a2 a3 : Int} (h0 : a0 ≤ a1) (h1 : (a1 < 0) ∨ ((a1 = 0) ∧ ((0 : Int) ≤ a2) ∧ (a2 ≤ 5) ∧ ((0 : Int) ≤ a3) ∧ (a3 ≤ 59))) (h2 : a0 = 0) : (0 : Int) ≤ a2 ∧ a2 < 6 := by omega
theorem oz1260 {a0 : Int} (h0 : a0 = 0) : (0 : Int) ≤ a0 ∧ a0 < 6 := by omega
theorem oz1261 {a0 a1 a2 a3 : Int} (h0 : a0 ≤ a1) (h1 : (a1 < 0) ∨ ((a1 = 0) ∧ ((0 : Int) ≤ a2) ∧ (a2 ≤ 5) ∧ ((0 : Int) ≤ a3) ∧ (a3 ≤ 59))) (h2 : a0 = 0) : (0 : Int) ≤ a3 := by omega
theorem oz1262 {a0 a1 a2 a3 : Int} (h0 : a0 ≤ a1) (h1 : (a1 < 0) ∨ ((a1 = 0) ∧ ((0 : Int) ≤ a2) ∧ (a2 ≤ 5) ∧ ((0 : Int) ≤ a3) ∧ (a3 ≤ 59))) (h2 : a0 = 0) : a3 < 60 := by omega
theorem oz1263 {a0 : Int} (h0 : a0 = 0) (h1 : ¬ (a0 = 0)) : False := by omega
theorem oz1264 {a0 : Int} (h0 : a0 = 1) : (0 : Int) ≤ a0 ∧ a0 < 6 := by omega
theorem oz1265 {a0 : Int} (h0 : a0 = 2) : (0 : Int) ≤ a0 ∧ a0 < 6 := by omega
theorem oz1266 {a0 : Int} (h0 : a0 = 3) : (0 : Int) ≤ a0 ∧ a0 < 6 := by omega
theorem oz1267 {a0 : Int} (h0 : a0 = 4) : (0 : Int) ≤ a0 ∧ a0 < 6 := by omega
theorem oz1268 {a0 : Int} (h0 : a0 = 5) : (0 : Int) ≤ a0 ∧ a0 < 6 := by omega
theorem oz1269 {a0 a1 a2 a3 : Int} (h0 : a0 ≤ a1) (h1 : ¬ (a2 = 1)) (h2 : ¬ (a2 = 2)) (h3 : ¬ (a2 = 3)) (h4 : ¬ (a2 = 0)) (h5 : ¬ (a2 = 4)) (h6 : ¬ (a2 = 5)) (h7 : (a1 < 0) ∨ ((a1 = 0) ∧ ((0 : Int) ≤ a2) ∧ (a2 ≤ 5) ∧ ((0 : Int) ≤ a3) ∧ (a3 ≤ 59))) (h8 : a0 = 0) : False := by omega
theorem oz1270 {a0 a1 a2 a3 : Int} (h0 : a0 ≤ a1) (h1 : ¬ (a2 = 0)) (h2 : ¬ (a2 = 1)) (h3 : ¬ (a2 = 2)) (h4 : ¬ (a2 = 3)) (h5 : ¬ (a2 = 4)) (h6 : ¬ (a2 = 5)) (h7 : (a1 < 0) ∨ ((a1 = 0) ∧ ((0 : Int) ≤ a2) ∧ (a2 ≤ 5) ∧ ((0 : Int) ≤ a3) ∧ (a3 ≤ 59))) (h8 : a0 = 0) : False := by omega
theorem oz1271 {a0 a1 : Int} (h0 : a0 = a1) (h1 : a0 ≠ a1) (h2 : a0 ≤ 2) (h3 : a1 = 2) : False := by omega
theorem oz1272 {a0 a1 a2 a3 : Int} (h0 : a0 < a1) (h1 : a1 = 0) : ¬ (((0 : Int) ≤ a0) ∧ (a0 ≤ a2) ∧ ((0 : Int) ≤ a3) ∧ ((a3 + a0) ≤ a2)) := by omega
theorem oz1273 {a0 a1 a2 : Int} (h0 : a0 < a1) : ¬ (((0 : Int) ≤ a1) ∧ (a1 ≤ a0) ∧ ((0 : Int) ≤ a2) ∧ ((a2 + a1) ≤ a0)) := by omega
theorem oz1274 {a0 a1 a2 a3 : Int} (h0 : a0 < a1) (h1 : a1 = 0) : ¬ (((0 : Int) ≤ a2) ∧ (a2 ≤ a3) ∧ ((0 : Int) ≤ a0) ∧ ((a0 + a2) ≤ a3)) := by omega
theorem oz1275 {a0 a1 a2 : Int} (h0 : a0 ≤ a1) (h1 : a2 ≤ 60) (h2 : a0 = 0) : a2 - a1 ≤ 2147483647 := by omega
theorem oz1276 {a0 a1 a2 a3 : Int} (h0 : a0 < a1) (h1 : a0 = a2 - a3) : ¬ (((0 : Int) ≤ a3) ∧ (a3 ≤ a2) ∧ ((0 : Int) ≤ a1) ∧ ((a1 + a3) ≤ a2)) := by omega
theorem oz1277 {a0 a1 a2 a3 a4 : Int} (h0 : a0 ≤ a1) (h1 : a1 ≤ a2) (h2 : a0 ≤ a3) (h3 : a3 ≤ a4) (h4 : a4 = a2 - a1) (h5 : a0 = 0) : ((0 : Int) ≤ a1) ∧ (a1 ≤ a2) ∧ ((0 : Int) ≤ a3) ∧ ((a3 + a1) ≤ a2) := by omega
theorem oz1278 {a0 a1 a2 : Int} (h0 : a0 ≤ 60) (h1 : (a1 + a2) ≤ a0) : a1 + a2 ≤ 60 := by omega
theorem oz1279 {a0 : Int} (h0 : a0 ≠ a0) : False := by omega
theorem oz1280 {a0 a1 : Int} (h0 : a0 = a1) (h1 : a0 ≠ a1) (h2 : (0 : Int) ≤ a0) (h3 : a1 = 0) : False := by omega
theorem oz1281 {a0 a1 : Int} (h0 : a0 ≠ a1) (h1 : a0 = a1) (h2 : (0 : Int) ≤ a0) (h3 : a1 = 0) : False := by omega
theorem oz1282 {a0 : Int} (h0 : ¬ (a0 = 1)) (h1 : ¬ (a0 = 2)) (h2 : ¬ (a0 = 3)) (h3 : ¬ (a0 = 4)) (h4 : ¬ (a0 = 0)) (h5 : ¬ (a0 = 5)) (h6 : (0 : Int) ≤ a0) (h7 : a0 ≤ 5) : False := by omega
def w39_110 : kW := ([7040, 7042, 7043], [], [111], [])
def w39_110_L26 : kW := ([], [], [111], [])
set_option maxRecDepth 100000 in
theorem kc39_110 {i : Nat → Int32} {a : Nat → List Int32} {q : Nat → List Int64} {r : Nat → Nat} (hI : kI i a q) (hr : kr r) (x1 : Int32) (x2 : Int32) (hp0 : ((0 : Int) ≤ x1.toInt) ∧ (x1.toInt ≤ 4)) : km 1 39 [.ref 110, .int x1, .int x2] (ks i a q r) (kVN w39_110 i a q r (fun i1 a1 q1 r1 => True)) := by
  have hG := kG_self w39_110 hI hr
  refine km_ofN (q := (mi_h39, mi_c39)) rfl (by decide) (Nat.le_of_ble_eq_true rfl) ?_
  intro P hP
  have hJ1 := kG_i hG 7040 rfl (v := 2) ⟨(oz256 kn2), (oz1246 kn2)⟩
  have hJ2 := kG_i hJ1 7042 rfl (v := x1) ⟨(oz3 hp0.1), (oz1201 hp0.2)⟩
  refine ft_go mi_k39 10 15 [(0, .ref 110), (1, .int x1), (2, .int x2)] [.int 60, .int x2, .int 0, .ref 110] (ku (ku i 7040 2) 7042 x1) a q r (by rfl) ?_
  have m4 : (((bif decide (60 < x2) then 60 else x2).toInt ≤ x2.toInt) ∧ ((bif decide (60 < x2) then 60 else x2).toInt ≤ (60 : Int32).toInt)) ∧ ((bif decide (60 < x2) then 60 else x2).toInt = x2.toInt ∨ (bif decide (60 < x2) then 60 else x2).toInt = (60 : Int32).toInt) := kd_min
  refine ft_go mi_k39 1 18 [(0, .ref 110), (1, .int x1), (2, .int x2)] [.int (bif decide (60 < x2) then 60 else x2), .int 0, .ref 110] (ku (ku i 7040 2) 7042 x1) a q r (by rfl) ?_
  generalize (bif decide (60 < x2) then 60 else x2) = m3 at m4 ⊢
  have m6 : (((0 : Int32).toInt ≤ (bif decide (0 < m3) then m3 else 0).toInt) ∧ (m3.toInt ≤ (bif decide (0 < m3) then m3 else 0).toInt)) ∧ ((bif decide (0 < m3) then m3 else 0).toInt = (0 : Int32).toInt ∨ (bif decide (0 < m3) then m3 else 0).toInt = m3.toInt) := kd_max
  refine ft_go mi_k39 1 21 [(0, .ref 110), (1, .int x1), (2, .int x2)] [.int (bif decide (0 < m3) then m3 else 0), .ref 110] (ku (ku i 7040 2) 7042 x1) a q r (by rfl) ?_
  generalize (bif decide (0 < m3) then m3 else 0) = m5 at m6 ⊢
  have hJ7 := kG_i hJ2 7043 rfl (v := m5) ⟨(oz389 m6.1.1 kn0), (oz1247 m4.1.2 m6.2 kn60 kn0)⟩
  refine ft_go mi_k39 3 26 [(3, .int 0), (0, .ref 110), (1, .int x1), (2, .int x2)] [] (ku (ku (ku i 7040 2) 7042 x1) 7043 m5) a q r (by rfl) ?_
  have lp8 : ∀ (nz : Nat) (i8 : Nat → Int32) (a8 : Nat → List Int32) (q8 : Nat → List Int64) (r8 : Nat → Nat) (l3_8 : Int32), kG w39_110_L26 (ku (ku (ku i 7040 2) 7042 x1) 7043 m5) a q r i8 a8 q8 r8 → (0 : Int) ≤ l3_8.toInt → (((i8 7043).toInt - l3_8.toInt)).toNat < nz → ko 1 (mi_h39, mi_c39) P (26, [(3, .int l3_8), (0, .ref 110), (1, .int x1), (2, .int x2)], [], (0, 0), ks i8 a8 q8 r8) := by
    intro nz
    induction nz with
    | zero =>
      intro _ _ _ _ _ _ _ hm
      exact absurd hm (Nat.not_lt_zero _)
    | succ nz ih8 =>
      intro i8 a8 q8 r8 l3_8 hL8 p8_0 hm8
      have fi8_7043 : ((0 : Int) ≤ (i8 7043).toInt) ∧ ((i8 7043).toInt ≤ 60) := hL8.I.1 7043
      have efi8_7043 : (i8 7043).toInt = m5.toInt := hL8.ti 7043 rfl
      refine ft_go mi_k39 3 31 [(3, .int l3_8), (0, .ref 110), (1, .int x1), (2, .int x2)] [.int (i8 7043), .int l3_8] i8 a8 q8 r8 (by rfl) ?_
      refine ft_if mi_k39 (decide ((i8 7043) ≤ l3_8)) 47 34 [(3, .int l3_8), (0, .ref 110), (1, .int x1), (2, .int x2)] [] (by rfl) (fun c => ?_) (fun c => ?_)
      ·
        have c9 : (i8 7043).toInt ≤ l3_8.toInt := kd_le c; clear c
        have hG10 := kG_call hJ7 hL8 (by decide +kernel)
        exact ft_ret mi_k39 (by rfl) (hP  _ _ _ _ hG10 trivial)
      ·
        have c11 : l3_8.toInt < (i8 7043).toInt := kd_leF c; clear c
        refine ft_go mi_k39 4 40 [(3, .int l3_8), (0, .ref 110), (1, .int x1), (2, .int x2)] [.long 0, .int l3_8, .ref 111] i8 a8 q8 r8 (by rfl) ?_
        have hJ12 := kG_q hL8 111 rfl (z := (q8 111).set l3_8.toNatClampNeg 0) (List.length_set.trans (hL8.I.2.2.2 111))
        refine ko_last2 mi_k39.1 (l := q8 111) (n := 60) (c := 60) (ax := (0, 0, 0, 0, 0)) (mi_k39.2 _ _ (by rfl)) (by rfl) (by rfl) (hL8.I.2.2.2 111) rfl (oz3 p8_0) (oz266 c11 fi8_7043.2) (h2 := ks i8 a8 (ku q8 111 ((q8 111).set l3_8.toNatClampNeg 0)) r8) (by rfl) ?_
        have s13 : (l3_8 + 1).toInt = l3_8.toInt + (1 : Int32).toInt := kd_add (oz12 p8_0 kn1) (oz307 c11 fi8_7043.2 kn1)
        refine ft_go mi_k39 2 26 [(3, .int (l3_8 + 1)), (0, .ref 110), (1, .int x1), (2, .int x2)] [] i8 a8 (ku q8 111 ((q8 111).set l3_8.toNatClampNeg 0)) r8 (by rfl) ?_
        exact ih8 _ _ _ _ _ hJ12 (oz14 p8_0 s13 kn1) (kj_meas (oz44 s13 kn1) (oz45 c11) hm8)
  exact lp8 _ _ _ _ _ _ (kG_self _ hJ7.I hJ7.R) (oz46 kn0) (Nat.lt_succ_self _)
def w39_112 : kW := ([7168, 7170, 7171], [], [113], [])
def w39_112_L26 : kW := ([], [], [113], [])
set_option maxRecDepth 100000 in
theorem kc39_112 {i : Nat → Int32} {a : Nat → List Int32} {q : Nat → List Int64} {r : Nat → Nat} (hI : kI i a q) (hr : kr r) (x1 : Int32) (x2 : Int32) (hp0 : ((0 : Int) ≤ x1.toInt) ∧ (x1.toInt ≤ 4)) : km 1 39 [.ref 112, .int x1, .int x2] (ks i a q r) (kVN w39_112 i a q r (fun i1 a1 q1 r1 => True)) := by
  have hG := kG_self w39_112 hI hr
  refine km_ofN (q := (mi_h39, mi_c39)) rfl (by decide) (Nat.le_of_ble_eq_true rfl) ?_
  intro P hP
  have hJ1 := kG_i hG 7168 rfl (v := 2) ⟨(oz256 kn2), (oz1246 kn2)⟩
  have hJ2 := kG_i hJ1 7170 rfl (v := x1) ⟨(oz3 hp0.1), (oz1201 hp0.2)⟩
  refine ft_go mi_k39 10 15 [(0, .ref 112), (1, .int x1), (2, .int x2)] [.int 60, .int x2, .int 0, .ref 112] (ku (ku i 7168 2) 7170 x1) a q r (by rfl) ?_
  have m4 : (((bif decide (60 < x2) then 60 else x2).toInt ≤ x2.toInt) ∧ ((bif decide (60 < x2) then 60 else x2).toInt ≤ (60 : Int32).toInt)) ∧ ((bif decide (60 < x2) then 60 else x2).toInt = x2.toInt ∨ (bif decide (60 < x2) then 60 else x2).toInt = (60 : Int32).toInt) := kd_min
  refine ft_go mi_k39 1 18 [(0, .ref 112), (1, .int x1), (2, .int x2)] [.int (bif decide (60 < x2) then 60 else x2), .int 0, .ref 112] (ku (ku i 7168 2) 7170 x1) a q r (by rfl) ?_
  generalize (bif decide (60 < x2) then 60 else x2) = m3 at m4 ⊢
  have m6 : (((0 : Int32).toInt ≤ (bif decide (0 < m3) then m3 else 0).toInt) ∧ (m3.toInt ≤ (bif decide (0 < m3) then m3 else 0).toInt)) ∧ ((bif decide (0 < m3) then m3 else 0).toInt = (0 : Int32).toInt ∨ (bif decide (0 < m3) then m3 else 0).toInt = m3.toInt) := kd_max
  refine ft_go mi_k39 1 21 [(0, .ref 112), (1, .int x1), (2, .int x2)] [.int (bif decide (0 < m3) then m3 else 0), .ref 112] (ku (ku i 7168 2) 7170 x1) a q r (by rfl) ?_
  generalize (bif decide (0 < m3) then m3 else 0) = m5 at m6 ⊢
  have hJ7 := kG_i hJ2 7171 rfl (v := m5) ⟨(oz389 m6.1.1 kn0), (oz1247 m4.1.2 m6.2 kn60 kn0)⟩
  refine ft_go mi_k39 3 26 [(3, .int 0), (0, .ref 112), (1, .int x1), (2, .int x2)] [] (ku (ku (ku i 7168 2) 7170 x1) 7171 m5) a q r (by rfl) ?_
  have lp8 : ∀ (nz : Nat) (i8 : Nat → Int32) (a8 : Nat → List Int32) (q8 : Nat → List Int64) (r8 : Nat → Nat) (l3_8 : Int32), kG w39_112_L26 (ku (ku (ku i 7168 2) 7170 x1) 7171 m5) a q r i8 a8 q8 r8 → (0 : Int) ≤ l3_8.toInt → (((i8 7171).toInt - l3_8.toInt)).toNat < nz → ko 1 (mi_h39, mi_c39) P (26, [(3, .int l3_8), (0, .ref 112), (1, .int x1), (2, .int x2)], [], (0, 0), ks i8 a8 q8 r8) := by
    intro nz
    induction nz with
    | zero =>
      intro _ _ _ _ _ _ _ hm
      exact absurd hm (Nat.not_lt_zero _)
    | succ nz ih8 =>
      intro i8 a8 q8 r8 l3_8 hL8 p8_0 hm8
      have fi8_7171 : ((0 : Int) ≤ (i8 7171).toInt) ∧ ((i8 7171).toInt ≤ 60) := hL8.I.1 7171
      have efi8_7171 : (i8 7171).toInt = m5.toInt := hL8.ti 7171 rfl
      refine ft_go mi_k39 3 31 [(3, .int l3_8), (0, .ref 112), (1, .int x1), (2, .int x2)] [.int (i8 7171), .int l3_8] i8 a8 q8 r8 (by rfl) ?_
      refine ft_if mi_k39 (decide ((i8 7171) ≤ l3_8)) 47 34 [(3, .int l3_8), (0, .ref 112), (1, .int x1), (2, .int x2)] [] (by rfl) (fun c => ?_) (fun c => ?_)
      ·
        have c9 : (i8 7171).toInt ≤ l3_8.toInt := kd_le c; clear c
        have hG10 := kG_call hJ7 hL8 (by decide +kernel)
        exact ft_ret mi_k39 (by rfl) (hP  _ _ _ _ hG10 trivial)
      ·
        have c11 : l3_8.toInt < (i8 7171).toInt := kd_leF c; clear c
        refine ft_go mi_k39 4 40 [(3, .int l3_8), (0, .ref 112), (1, .int x1), (2, .int x2)] [.long 0, .int l3_8, .ref 113] i8 a8 q8 r8 (by rfl) ?_
        have hJ12 := kG_q hL8 113 rfl (z := (q8 113).set l3_8.toNatClampNeg 0) (List.length_set.trans (hL8.I.2.2.2 113))
        refine ko_last2 mi_k39.1 (l := q8 113) (n := 60) (c := 60) (ax := (0, 0, 0, 0, 0)) (mi_k39.2 _ _ (by rfl)) (by rfl) (by rfl) (hL8.I.2.2.2 113) rfl (oz3 p8_0) (oz266 c11 fi8_7171.2) (h2 := ks i8 a8 (ku q8 113 ((q8 113).set l3_8.toNatClampNeg 0)) r8) (by rfl) ?_
        have s13 : (l3_8 + 1).toInt = l3_8.toInt + (1 : Int32).toInt := kd_add (oz12 p8_0 kn1) (oz307 c11 fi8_7171.2 kn1)
        refine ft_go mi_k39 2 26 [(3, .int (l3_8 + 1)), (0, .ref 112), (1, .int x1), (2, .int x2)] [] i8 a8 (ku q8 113 ((q8 113).set l3_8.toNatClampNeg 0)) r8 (by rfl) ?_
        exact ih8 _ _ _ _ _ hJ12 (oz14 p8_0 s13 kn1) (kj_meas (oz44 s13 kn1) (oz45 c11) hm8)
  exact lp8 _ _ _ _ _ _ (kG_self _ hJ7.I hJ7.R) (oz46 kn0) (Nat.lt_succ_self _)
def w39_114 : kW := ([7296, 7298, 7299], [], [115], [])
def w39_114_L26 : kW := ([], [], [115], [])
set_option maxRecDepth 100000 in
theorem kc39_114 {i : Nat → Int32} {a : Nat → List Int32} {q : Nat → List Int64} {r : Nat → Nat} (hI : kI i a q) (hr : kr r) (x1 : Int32) (x2 : Int32) (hp0 : ((0 : Int) ≤ x1.toInt) ∧ (x1.toInt ≤ 4)) : km 1 39 [.ref 114, .int x1, .int x2] (ks i a q r) (kVN w39_114 i a q r (fun i1 a1 q1 r1 => True)) := by
  have hG := kG_self w39_114 hI hr
  refine km_ofN (q := (mi_h39, mi_c39)) rfl (by decide) (Nat.le_of_ble_eq_true rfl) ?_
  intro P hP
  have hJ1 := kG_i hG 7296 rfl (v := 2) ⟨(oz256 kn2), (oz1246 kn2)⟩
  have hJ2 := kG_i hJ1 7298 rfl (v := x1) ⟨(oz3 hp0.1), (oz1201 hp0.2)⟩
  refine ft_go mi_k39 10 15 [(0, .ref 114), (1, .int x1), (2, .int x2)] [.int 60, .int x2, .int 0, .ref 114] (ku (ku i 7296 2) 7298 x1) a q r (by rfl) ?_
  have m4 : (((bif decide (60 < x2) then 60 else x2).toInt ≤ x2.toInt) ∧ ((bif decide (60 < x2) then 60 else x2).toInt ≤ (60 : Int32).toInt)) ∧ ((bif decide (60 < x2) then 60 else x2).toInt = x2.toInt ∨ (bif decide (60 < x2) then 60 else x2).toInt = (60 : Int32).toInt) := kd_min
  refine ft_go mi_k39 1 18 [(0, .ref 114), (1, .int x1), (2, .int x2)] [.int (bif decide (60 < x2) then 60 else x2), .int 0, .ref 114] (ku (ku i 7296 2) 7298 x1) a q r (by rfl) ?_
  generalize (bif decide (60 < x2) then 60 else x2) = m3 at m4 ⊢
  have m6 : (((0 : Int32).toInt ≤ (bif decide (0 < m3) then m3 else 0).toInt) ∧ (m3.toInt ≤ (bif decide (0 < m3) then m3 else 0).toInt)) ∧ ((bif decide (0 < m3) then m3 else 0).toInt = (0 : Int32).toInt ∨ (bif decide (0 < m3) then m3 else 0).toInt = m3.toInt) := kd_max
  refine ft_go mi_k39 1 21 [(0, .ref 114), (1, .int x1), (2, .int x2)] [.int (bif decide (0 < m3) then m3 else 0), .ref 114] (ku (ku i 7296 2) 7298 x1) a q r (by rfl) ?_
  generalize (bif decide (0 < m3) then m3 else 0) = m5 at m6 ⊢
  have hJ7 := kG_i hJ2 7299 rfl (v := m5) ⟨(oz389 m6.1.1 kn0), (oz1247 m4.1.2 m6.2 kn60 kn0)⟩
  refine ft_go mi_k39 3 26 [(3, .int 0), (0, .ref 114), (1, .int x1), (2, .int x2)] [] (ku (ku (ku i 7296 2) 7298 x1) 7299 m5) a q r (by rfl) ?_
  have lp8 : ∀ (nz : Nat) (i8 : Nat → Int32) (a8 : Nat → List Int32) (q8 : Nat → List Int64) (r8 : Nat → Nat) (l3_8 : Int32), kG w39_114_L26 (ku (ku (ku i 7296 2) 7298 x1) 7299 m5) a q r i8 a8 q8 r8 → (0 : Int) ≤ l3_8.toInt → (((i8 7299).toInt - l3_8.toInt)).toNat < nz → ko 1 (mi_h39, mi_c39) P (26, [(3, .int l3_8), (0, .ref 114), (1, .int x1), (2, .int x2)], [], (0, 0), ks i8 a8 q8 r8) := by
    intro nz
    induction nz with
    | zero =>
      intro _ _ _ _ _ _ _ hm
      exact absurd hm (Nat.not_lt_zero _)
    | succ nz ih8 =>
      intro i8 a8 q8 r8 l3_8 hL8 p8_0 hm8
      have fi8_7299 : ((0 : Int) ≤ (i8 7299).toInt) ∧ ((i8 7299).toInt ≤ 60) := hL8.I.1 7299
      have efi8_7299 : (i8 7299).toInt = m5.toInt := hL8.ti 7299 rfl
      refine ft_go mi_k39 3 31 [(3, .int l3_8), (0, .ref 114), (1, .int x1), (2, .int x2)] [.int (i8 7299), .int l3_8] i8 a8 q8 r8 (by rfl) ?_
      refine ft_if mi_k39 (decide ((i8 7299) ≤ l3_8)) 47 34 [(3, .int l3_8), (0, .ref 114), (1, .int x1), (2, .int x2)] [] (by rfl) (fun c => ?_) (fun c => ?_)
      ·
        have c9 : (i8 7299).toInt ≤ l3_8.toInt := kd_le c; clear c
        have hG10 := kG_call hJ7 hL8 (by decide +kernel)
        exact ft_ret mi_k39 (by rfl) (hP  _ _ _ _ hG10 trivial)
      ·
        have c11 : l3_8.toInt < (i8 7299).toInt := kd_leF c; clear c
        refine ft_go mi_k39 4 40 [(3, .int l3_8), (0, .ref 114), (1, .int x1), (2, .int x2)] [.long 0, .int l3_8, .ref 115] i8 a8 q8 r8 (by rfl) ?_
        have hJ12 := kG_q hL8 115 rfl (z := (q8 115).set l3_8.toNatClampNeg 0) (List.length_set.trans (hL8.I.2.2.2 115))
        refine ko_last2 mi_k39.1 (l := q8 115) (n := 60) (c := 60) (ax := (0, 0, 0, 0, 0)) (mi_k39.2 _ _ (by rfl)) (by rfl) (by rfl) (hL8.I.2.2.2 115) rfl (oz3 p8_0) (oz266 c11 fi8_7299.2) (h2 := ks i8 a8 (ku q8 115 ((q8 115).set l3_8.toNatClampNeg 0)) r8) (by rfl) ?_
        have s13 : (l3_8 + 1).toInt = l3_8.toInt + (1 : Int32).toInt := kd_add (oz12 p8_0 kn1) (oz307 c11 fi8_7299.2 kn1)
        refine ft_go mi_k39 2 26 [(3, .int (l3_8 + 1)), (0, .ref 114), (1, .int x1), (2, .int x2)] [] i8 a8 (ku q8 115 ((q8 115).set l3_8.toNatClampNeg 0)) r8 (by rfl) ?_
        exact ih8 _ _ _ _ _ hJ12 (oz14 p8_0 s13 kn1) (kj_meas (oz44 s13 kn1) (oz45 c11) hm8)
  exact lp8 _ _ _ _ _ _ (kG_self _ hJ7.I hJ7.R) (oz46 kn0) (Nat.lt_succ_self _)
def w114_0 : kW := ([6656, 6658, 6659, 6784, 6786, 6787, 6912, 6914, 6915, 7040, 7042, 7043, 7168, 7170, 7171, 7296, 7298, 7299], [], [105, 107, 109, 111, 113, 115], [])
set_option maxRecDepth 100000 in
theorem kc114_0 {i : Nat → Int32} {a : Nat → List Int32} {q : Nat → List Int64} {r : Nat → Nat} (hI : kI i a q) (hr : kr r) (x1 : Int32) (x2 : Int32) (x3 : Int32) : km 5 114 [.ref 0, .int x1, .int x2, .int x3] (ks i a q r) (kVI w114_0 i a q r (fun v i1 a1 q1 r1 => True)) := by
  have hG := kG_self w114_0 hI hr
  refine km_ofI (q := (mi_h114, mi_c114)) rfl (by decide) (Nat.le_of_ble_eq_true rfl) ?_
  intro P hP
  first | refine ft_go mi_k114 1 1 [(0, .ref 0), (1, .int x1), (2, .int x2), (3, .int x3)] [.int x1] i a q r (by rfl) ?_ | refine ko_steps mi_in114 1 _ (1, [(0, .ref 0), (1, .int x1), (2, .int x2), (3, .int x3)], [.int x1], (0, 0), ks i a q r) (by rfl) ?_
  refine ko_callPI mi_k114.1 (pc := 1) (ls := [(0, .ref 0), (1, .int x1), (2, .int x2), (3, .int x3)]) (st := [.int x1]) (h := ks i a q r) (i := (.invokestatic 70, 3, 121, 0, 9, 0, 157)) (mi_k114.2 _ _ (by rfl)) (ft_invS mi_pq121 (by rfl)) (cy := mi_c121) mi_pq121 rfl (kc121 hG.I hG.R x1) (by decide) ?_
  intro vg1 hg1
  rcases hg1 with ⟨eg1, hg1⟩ | ⟨eg1, hg1⟩
  ·
    subst eg1
    have z2 : ((0 : Int) ≤ x1.toInt) ∧ (x1.toInt ≤ 5) := hg1
    first | refine ft_go mi_k114 4 10 [(0, .ref 0), (1, .int x1), (2, .int x2), (3, .int x3)] [.int 4, .int 0, .int x2] i a q r (by rfl) ?_ | refine ko_steps mi_in114 4 _ (10, [(0, .ref 0), (1, .int x1), (2, .int x2), (3, .int x3)], [.int 4, .int 0, .int x2], (0, 0), ks i a q r) (by rfl) ?_
    refine ko_callPI mi_k114.1 (pc := 10) (ls := [(0, .ref 0), (1, .int x1), (2, .int x2), (3, .int x3)]) (st := [.int 4, .int 0, .int x2]) (h := ks i a q r) (i := (.invokestatic 74, 3, 120, 0, 9, 0, 152)) (mi_k114.2 _ _ (by rfl)) (ft_invS mi_pq120 (by rfl)) (cy := mi_c120) mi_pq120 rfl (kc120 hG.I hG.R x2 0 4) (by decide) ?_
    intro vg3 hg3
    rcases hg3 with ⟨eg3, hg3⟩ | ⟨eg3, hg3⟩
    ·
      subst eg3
      have z4 : ((0 : Int32).toInt ≤ x2.toInt) ∧ (x2.toInt ≤ (4 : Int32).toInt) := hg3
      first | refine ft_go mi_k114 3 19 [(0, .ref 0), (1, .int x1), (2, .int x2), (3, .int x3)] [.int 60, .int x3] i a q r (by rfl) ?_ | refine ko_steps mi_in114 3 _ (19, [(0, .ref 0), (1, .int x1), (2, .int x2), (3, .int x3)], [.int 60, .int x3], (0, 0), ks i a q r) (by rfl) ?_
      refine ft_if mi_k114 (decide (x3 ≤ 60)) 24 22 [(0, .ref 0), (1, .int x1), (2, .int x2), (3, .int x3)] [] (by rfl) (fun c => ?_) (fun c => ?_)
      ·
        have c5 : x3.toInt ≤ (60 : Int32).toInt := kd_le c; clear c
        first | refine ft_go mi_k114 1 25 [(0, .ref 0), (1, .int x1), (2, .int x2), (3, .int x3)] [.int x3] i a q r (by rfl) ?_ | refine ko_steps mi_in114 1 _ (25, [(0, .ref 0), (1, .int x1), (2, .int x2), (3, .int x3)], [.int x3], (0, 0), ks i a q r) (by rfl) ?_
        refine ft_if mi_k114 (decide (0 ≤ x3)) 31 28 [(0, .ref 0), (1, .int x1), (2, .int x2), (3, .int x3)] [] (by rfl) (fun c => ?_) (fun c => ?_)
        ·
          have c6 : (0 : Int32).toInt ≤ x3.toInt := kd_le c; clear c
          first | refine ft_go mi_k114 3 36 [(0, .ref 0), (1, .int x1), (2, .int x2), (3, .int x3)] [.int x1, .ref 97] i a q r (by rfl) ?_ | refine ko_steps mi_in114 3 _ (36, [(0, .ref 0), (1, .int x1), (2, .int x2), (3, .int x3)], [.int x1, .ref 97], (0, 0), ks i a q r) (by rfl) ?_
          by_cases w7 : x1.toInt = 0
          ·
            refine ko_eq (x1 := (36, [(0, .ref 0), (1, .int x1), (2, .int x2), (3, .int x3)], [.int 0, .ref 97], (0, 0), ks i a q r)) (by rw [(kj_eq w7 (by decide) : x1 = 0)]) ?_
            first | refine ft_go mi_k114 3 39 [(0, .ref 0), (1, .int x1), (2, .int x2), (3, .int x3)] [.int x3, .int x2, .ref 104] i a q r (by rfl) ?_ | refine ko_steps mi_in114 3 _ (39, [(0, .ref 0), (1, .int x1), (2, .int x2), (3, .int x3)], [.int x3, .int x2, .ref 104], (0, 0), ks i a q r) (by rfl) ?_
            refine ko_callN mi_k114.1 (pc := 39) (ls := [(0, .ref 0), (1, .int x1), (2, .int x2), (3, .int x3)]) (st := [.int x3, .int x2, .ref 104]) (h := ks i a q r) (i := (.invokevirtual 308, 3, 39, 0, 9, 0, 307)) (mi_k114.2 _ _ (by rfl)) (ft_invS mi_pq39 (by rfl)) (cy := mi_c39) mi_pq39 rfl (kc39_104 hG.I hG.R x2 x3 (oz600 z4.1 z4.2 kn0 kn4)) (by decide) ?_
            intro ig8 ag8 qg8 rg8 kg8 hg8
            have hGg8 := kG_call hG kg8 (by decide +kernel)
            first | refine ft_go mi_k114 1 43 [(0, .ref 0), (1, .int x1), (2, .int x2), (3, .int x3)] [.int 1] ig8 ag8 qg8 rg8 (by rfl) ?_ | refine ko_steps mi_in114 1 _ (43, [(0, .ref 0), (1, .int x1), (2, .int x2), (3, .int x3)], [.int 1], (0, 0), ks ig8 ag8 qg8 rg8) (by rfl) ?_
            exact ft_ret mi_k114 (by rfl) (hP 1 _ _ _ _ hGg8 trivial)
          by_cases w9 : x1.toInt = 1
          ·
            refine ko_eq (x1 := (36, [(0, .ref 0), (1, .int x1), (2, .int x2), (3, .int x3)], [.int 1, .ref 97], (0, 0), ks i a q r)) (by rw [(kj_eq w9 (by decide) : x1 = 1)]) ?_
            first | refine ft_go mi_k114 3 39 [(0, .ref 0), (1, .int x1), (2, .int x2), (3, .int x3)] [.int x3, .int x2, .ref 106] i a q r (by rfl) ?_ | refine ko_steps mi_in114 3 _ (39, [(0, .ref 0), (1, .int x1), (2, .int x2), (3, .int x3)], [.int x3, .int x2, .ref 106], (0, 0), ks i a q r) (by rfl) ?_
            refine ko_callN mi_k114.1 (pc := 39) (ls := [(0, .ref 0), (1, .int x1), (2, .int x2), (3, .int x3)]) (st := [.int x3, .int x2, .ref 106]) (h := ks i a q r) (i := (.invokevirtual 308, 3, 39, 0, 9, 0, 307)) (mi_k114.2 _ _ (by rfl)) (ft_invS mi_pq39 (by rfl)) (cy := mi_c39) mi_pq39 rfl (kc39_106 hG.I hG.R x2 x3 (oz600 z4.1 z4.2 kn0 kn4)) (by decide) ?_
            intro ig10 ag10 qg10 rg10 kg10 hg10
            have hGg10 := kG_call hG kg10 (by decide +kernel)
            first | refine ft_go mi_k114 1 43 [(0, .ref 0), (1, .int x1), (2, .int x2), (3, .int x3)] [.int 1] ig10 ag10 qg10 rg10 (by rfl) ?_ | refine ko_steps mi_in114 1 _ (43, [(0, .ref 0), (1, .int x1), (2, .int x2), (3, .int x3)], [.int 1], (0, 0), ks ig10 ag10 qg10 rg10) (by rfl) ?_
            exact ft_ret mi_k114 (by rfl) (hP 1 _ _ _ _ hGg10 trivial)
          by_cases w11 : x1.toInt = 2
          ·
            refine ko_eq (x1 := (36, [(0, .ref 0), (1, .int x1), (2, .int x2), (3, .int x3)], [.int 2, .ref 97], (0, 0), ks i a q r)) (by rw [(kj_eq w11 (by decide) : x1 = 2)]) ?_
            first | refine ft_go mi_k114 3 39 [(0, .ref 0), (1, .int x1), (2, .int x2), (3, .int x3)] [.int x3, .int x2, .ref 108] i a q r (by rfl) ?_ | refine ko_steps mi_in114 3 _ (39, [(0, .ref 0), (1, .int x1), (2, .int x2), (3, .int x3)], [.int x3, .int x2, .ref 108], (0, 0), ks i a q r) (by rfl) ?_
            refine ko_callN mi_k114.1 (pc := 39) (ls := [(0, .ref 0), (1, .int x1), (2, .int x2), (3, .int x3)]) (st := [.int x3, .int x2, .ref 108]) (h := ks i a q r) (i := (.invokevirtual 308, 3, 39, 0, 9, 0, 307)) (mi_k114.2 _ _ (by rfl)) (ft_invS mi_pq39 (by rfl)) (cy := mi_c39) mi_pq39 rfl (kc39_108 hG.I hG.R x2 x3 (oz600 z4.1 z4.2 kn0 kn4)) (by decide) ?_
            intro ig12 ag12 qg12 rg12 kg12 hg12
            have hGg12 := kG_call hG kg12 (by decide +kernel)
            first | refine ft_go mi_k114 1 43 [(0, .ref 0), (1, .int x1), (2, .int x2), (3, .int x3)] [.int 1] ig12 ag12 qg12 rg12 (by rfl) ?_ | refine ko_steps mi_in114 1 _ (43, [(0, .ref 0), (1, .int x1), (2, .int x2), (3, .int x3)], [.int 1], (0, 0), ks ig12 ag12 qg12 rg12) (by rfl) ?_
            exact ft_ret mi_k114 (by rfl) (hP 1 _ _ _ _ hGg12 trivial)
          by_cases w13 : x1.toInt = 3
          ·
            refine ko_eq (x1 := (36, [(0, .ref 0), (1, .int x1), (2, .int x2), (3, .int x3)], [.int 3, .ref 97], (0, 0), ks i a q r)) (by rw [(kj_eq w13 (by decide) : x1 = 3)]) ?_
            first | refine ft_go mi_k114 3 39 [(0, .ref 0), (1, .int x1), (2, .int x2), (3, .int x3)] [.int x3, .int x2, .ref 110] i a q r (by rfl) ?_ | refine ko_steps mi_in114 3 _ (39, [(0, .ref 0), (1, .int x1), (2, .int x2), (3, .int x3)], [.int x3, .int x2, .ref 110], (0, 0), ks i a q r) (by rfl) ?_
            refine ko_callN mi_k114.1 (pc := 39) (ls := [(0, .ref 0), (1, .int x1), (2, .int x2), (3, .int x3)]) (st := [.int x3, .int x2, .ref 110]) (h := ks i a q r) (i := (.invokevirtual 308, 3, 39, 0, 9, 0, 307)) (mi_k114.2 _ _ (by rfl)) (ft_invS mi_pq39 (by rfl)) (cy := mi_c39) mi_pq39 rfl (kc39_110 hG.I hG.R x2 x3 (oz600 z4.1 z4.2 kn0 kn4)) (by decide) ?_
            intro ig14 ag14 qg14 rg14 kg14 hg14
            have hGg14 := kG_call hG kg14 (by decide +kernel)
            first | refine ft_go mi_k114 1 43 [(0, .ref 0), (1, .int x1), (2, .int x2), (3, .int x3)] [.int 1] ig14 ag14 qg14 rg14 (by rfl) ?_ | refine ko_steps mi_in114 1 _ (43, [(0, .ref 0), (1, .int x1), (2, .int x2), (3, .int x3)], [.int 1], (0, 0), ks ig14 ag14 qg14 rg14) (by rfl) ?_
            exact ft_ret mi_k114 (by rfl) (hP 1 _ _ _ _ hGg14 trivial)
          by_cases w15 : x1.toInt = 4
          ·
            refine ko_eq (x1 := (36, [(0, .ref 0), (1, .int x1), (2, .int x2), (3, .int x3)], [.int 4, .ref 97], (0, 0), ks i a q r)) (by rw [(kj_eq w15 (by decide) : x1 = 4)]) ?_
            first | refine ft_go mi_k114 3 39 [(0, .ref 0), (1, .int x1), (2, .int x2), (3, .int x3)] [.int x3, .int x2, .ref 112] i a q r (by rfl) ?_ | refine ko_steps mi_in114 3 _ (39, [(0, .ref 0), (1, .int x1), (2, .int x2), (3, .int x3)], [.int x3, .int x2, .ref 112], (0, 0), ks i a q r) (by rfl) ?_
            refine ko_callN mi_k114.1 (pc := 39) (ls := [(0, .ref 0), (1, .int x1), (2, .int x2), (3, .int x3)]) (st := [.int x3, .int x2, .ref 112]) (h := ks i a q r) (i := (.invokevirtual 308, 3, 39, 0, 9, 0, 307)) (mi_k114.2 _ _ (by rfl)) (ft_invS mi_pq39 (by rfl)) (cy := mi_c39) mi_pq39 rfl (kc39_112 hG.I hG.R x2 x3 (oz600 z4.1 z4.2 kn0 kn4)) (by decide) ?_
            intro ig16 ag16 qg16 rg16 kg16 hg16
            have hGg16 := kG_call hG kg16 (by decide +kernel)
            first | refine ft_go mi_k114 1 43 [(0, .ref 0), (1, .int x1), (2, .int x2), (3, .int x3)] [.int 1] ig16 ag16 qg16 rg16 (by rfl) ?_ | refine ko_steps mi_in114 1 _ (43, [(0, .ref 0), (1, .int x1), (2, .int x2), (3, .int x3)], [.int 1], (0, 0), ks ig16 ag16 qg16 rg16) (by rfl) ?_
            exact ft_ret mi_k114 (by rfl) (hP 1 _ _ _ _ hGg16 trivial)
          by_cases w17 : x1.toInt = 5
          ·
            refine ko_eq (x1 := (36, [(0, .ref 0), (1, .int x1), (2, .int x2), (3, .int x3)], [.int 5, .ref 97], (0, 0), ks i a q r)) (by rw [(kj_eq w17 (by decide) : x1 = 5)]) ?_
            first | refine ft_go mi_k114 3 39 [(0, .ref 0), (1, .int x1), (2, .int x2), (3, .int x3)] [.int x3, .int x2, .ref 114] i a q r (by rfl) ?_ | refine ko_steps mi_in114 3 _ (39, [(0, .ref 0), (1, .int x1), (2, .int x2), (3, .int x3)], [.int x3, .int x2, .ref 114], (0, 0), ks i a q r) (by rfl) ?_
            refine ko_callN mi_k114.1 (pc := 39) (ls := [(0, .ref 0), (1, .int x1), (2, .int x2), (3, .int x3)]) (st := [.int x3, .int x2, .ref 114]) (h := ks i a q r) (i := (.invokevirtual 308, 3, 39, 0, 9, 0, 307)) (mi_k114.2 _ _ (by rfl)) (ft_invS mi_pq39 (by rfl)) (cy := mi_c39) mi_pq39 rfl (kc39_114 hG.I hG.R x2 x3 (oz600 z4.1 z4.2 kn0 kn4)) (by decide) ?_
            intro ig18 ag18 qg18 rg18 kg18 hg18
            have hGg18 := kG_call hG kg18 (by decide +kernel)
            first | refine ft_go mi_k114 1 43 [(0, .ref 0), (1, .int x1), (2, .int x2), (3, .int x3)] [.int 1] ig18 ag18 qg18 rg18 (by rfl) ?_ | refine ko_steps mi_in114 1 _ (43, [(0, .ref 0), (1, .int x1), (2, .int x2), (3, .int x3)], [.int 1], (0, 0), ks ig18 ag18 qg18 rg18) (by rfl) ?_
            exact ft_ret mi_k114 (by rfl) (hP 1 _ _ _ _ hGg18 trivial)
          exact (oz1248 w11 w13 w15 w17 w7 w9 z2.1 z2.2).elim
        ·
          have c19 : x3.toInt < (0 : Int32).toInt := kd_leF c; clear c
          first | refine ft_go mi_k114 1 30 [(0, .ref 0), (1, .int x1), (2, .int x2), (3, .int x3)] [.int (-14)] i a q r (by rfl) ?_ | refine ko_steps mi_in114 1 _ (30, [(0, .ref 0), (1, .int x1), (2, .int x2), (3, .int x3)], [.int (-14)], (0, 0), ks i a q r) (by rfl) ?_
          exact ft_ret mi_k114 (by rfl) (hP (-14) _ _ _ _ hG trivial)
      ·
        have c20 : (60 : Int32).toInt < x3.toInt := kd_leF c; clear c
        first | refine ft_go mi_k114 1 23 [(0, .ref 0), (1, .int x1), (2, .int x2), (3, .int x3)] [.int (-1)] i a q r (by rfl) ?_ | refine ko_steps mi_in114 1 _ (23, [(0, .ref 0), (1, .int x1), (2, .int x2), (3, .int x3)], [.int (-1)], (0, 0), ks i a q r) (by rfl) ?_
        exact ft_ret mi_k114 (by rfl) (hP (-1) _ _ _ _ hG trivial)
    ·
      subst eg3
      have z21 : ¬ (((0 : Int32).toInt ≤ x2.toInt) ∧ (x2.toInt ≤ (4 : Int32).toInt)) := hg3
      first | refine ft_go mi_k114 2 23 [(0, .ref 0), (1, .int x1), (2, .int x2), (3, .int x3)] [.int (-1)] i a q r (by rfl) ?_ | refine ko_steps mi_in114 2 _ (23, [(0, .ref 0), (1, .int x1), (2, .int x2), (3, .int x3)], [.int (-1)], (0, 0), ks i a q r) (by rfl) ?_
      exact ft_ret mi_k114 (by rfl) (hP (-1) _ _ _ _ hG trivial)
  ·
    subst eg1
    have z22 : ¬ (((0 : Int) ≤ x1.toInt) ∧ (x1.toInt ≤ 5)) := hg1
    first | refine ft_go mi_k114 2 23 [(0, .ref 0), (1, .int x1), (2, .int x2), (3, .int x3)] [.int (-1)] i a q r (by rfl) ?_ | refine ko_steps mi_in114 2 _ (23, [(0, .ref 0), (1, .int x1), (2, .int x2), (3, .int x3)], [.int (-1)], (0, 0), ks i a q r) (by rfl) ?_
    exact ft_ret mi_k114 (by rfl) (hP (-1) _ _ _ _ hG trivial)
set_option maxRecDepth 100000 in
theorem kc128_0 {i : Nat → Int32} {a : Nat → List Int32} {q : Nat → List Int64} {r : Nat → Nat} (hI : kI i a q) (hr : kr r) (x1 : Int32) (x2 : Int32) : km 5 128 [.ref 0, .int x1, .int x2] (ks i a q r) (kPI (ks i a q r) (fun v => (v.toInt < 0) ∨ ((v.toInt = 0) ∧ ((0 : Int) ≤ x1.toInt) ∧ (x1.toInt ≤ 5) ∧ ((0 : Int) ≤ x2.toInt) ∧ (x2.toInt ≤ 59)))) := by
  have hG := kG_self kW0 hI hr
  refine km_ofPI (q := (mi_h128, mi_c128)) rfl (by decide) (Nat.le_of_ble_eq_true rfl) ?_
  intro P hP
  first | refine ft_go mi_k128 1 1 [(0, .ref 0), (1, .int x1), (2, .int x2)] [.int x1] i a q r (by rfl) ?_ | refine ko_steps mi_in128 1 _ (1, [(0, .ref 0), (1, .int x1), (2, .int x2)], [.int x1], (0, 0), ks i a q r) (by rfl) ?_
  refine ko_callPI mi_k128.1 (pc := 1) (ls := [(0, .ref 0), (1, .int x1), (2, .int x2)]) (st := [.int x1]) (h := ks i a q r) (i := (.invokestatic 70, 3, 121, 0, 9, 0, 157)) (mi_k128.2 _ _ (by rfl)) (ft_invS mi_pq121 (by rfl)) (cy := mi_c121) mi_pq121 rfl (kc121 hG.I hG.R x1) (by decide) ?_
  intro vg1 hg1
  rcases hg1 with ⟨eg1, hg1⟩ | ⟨eg1, hg1⟩
  ·
    subst eg1
    have z2 : ((0 : Int) ≤ x1.toInt) ∧ (x1.toInt ≤ 5) := hg1
    first | refine ft_go mi_k128 4 14 [(0, .ref 0), (1, .int x1), (2, .int x2)] [.int x1, .ref 97] i a q r (by rfl) ?_ | refine ko_steps mi_in128 4 _ (14, [(0, .ref 0), (1, .int x1), (2, .int x2)], [.int x1, .ref 97], (0, 0), ks i a q r) (by rfl) ?_
    by_cases w3 : x1.toInt = 0
    ·
      refine ko_eq (x1 := (14, [(0, .ref 0), (1, .int x1), (2, .int x2)], [.int 0, .ref 97], (0, 0), ks i a q r)) (by rw [(kj_eq w3 (by decide) : x1 = 0)]) ?_
      have fi_6656 : ((0 : Int) ≤ (i 6656).toInt) ∧ ((i 6656).toInt ≤ 2) := hG.I.1 6656
      first | refine ft_go mi_k128 4 20 [(3, .ref 104), (0, .ref 0), (1, .int x1), (2, .int x2)] [.int (i 6656)] i a q r (by rfl) ?_ | refine ko_steps mi_in128 4 _ (20, [(3, .ref 104), (0, .ref 0), (1, .int x1), (2, .int x2)], [.int (i 6656)], (0, 0), ks i a q r) (by rfl) ?_
      refine ft_if mi_k128 ((i 6656) != 0) 26 23 [(3, .ref 104), (0, .ref 0), (1, .int x1), (2, .int x2)] [] (by rfl) (fun c => ?_) (fun c => ?_)
      ·
        have c4 : (i 6656).toInt ≠ (0 : Int32).toInt := kd_ne c; clear c
        first | refine ft_go mi_k128 3 31 [(3, .ref 104), (0, .ref 0), (1, .int x1), (2, .int x2)] [.int 2, .int (i 6656)] i a q r (by rfl) ?_ | refine ko_steps mi_in128 3 _ (31, [(3, .ref 104), (0, .ref 0), (1, .int x1), (2, .int x2)], [.int 2, .int (i 6656)], (0, 0), ks i a q r) (by rfl) ?_
        refine ft_if mi_k128 ((i 6656) == 2) 37 34 [(3, .ref 104), (0, .ref 0), (1, .int x1), (2, .int x2)] [] (by rfl) (fun c => ?_) (fun c => ?_)
        ·
          have c5 : (i 6656).toInt = (2 : Int32).toInt := kd_eq c; clear c
          have fi_6659 : ((0 : Int) ≤ (i 6659).toInt) ∧ ((i 6659).toInt ≤ 60) := hG.I.1 6659
          have s6 : ((i 6659) - 1).toInt = (i 6659).toInt - (1 : Int32).toInt := kd_sub (oz47 fi_6659.1 kn1) (oz602 fi_6659.2 kn1)
          first | refine ft_go mi_k128 6 45 [(3, .ref 104), (0, .ref 0), (1, .int x1), (2, .int x2)] [.int ((i 6659) - 1), .int 0, .int x2] i a q r (by rfl) ?_ | refine ko_steps mi_in128 6 _ (45, [(3, .ref 104), (0, .ref 0), (1, .int x1), (2, .int x2)], [.int ((i 6659) - 1), .int 0, .int x2], (0, 0), ks i a q r) (by rfl) ?_
          refine ko_callPI mi_k128.1 (pc := 45) (ls := [(3, .ref 104), (0, .ref 0), (1, .int x1), (2, .int x2)]) (st := [.int ((i 6659) - 1), .int 0, .int x2]) (h := ks i a q r) (i := (.invokestatic 74, 3, 120, 0, 9, 0, 152)) (mi_k128.2 _ _ (by rfl)) (ft_invS mi_pq120 (by rfl)) (cy := mi_c120) mi_pq120 rfl (kc120 hG.I hG.R x2 0 ((i 6659) - 1)) (by decide) ?_
          intro vg7 hg7
          rcases hg7 with ⟨eg7, hg7⟩ | ⟨eg7, hg7⟩
          ·
            subst eg7
            have z8 : ((0 : Int32).toInt ≤ x2.toInt) ∧ (x2.toInt ≤ ((i 6659) - 1).toInt) := hg7
            first | refine ft_go mi_k128 3 57 [(3, .ref 104), (0, .ref 0), (1, .int x1), (2, .int x2)] [.int 0] i a q r (by rfl) ?_ | refine ko_steps mi_in128 3 _ (57, [(3, .ref 104), (0, .ref 0), (1, .int x1), (2, .int x2)], [.int 0], (0, 0), ks i a q r) (by rfl) ?_
            exact ft_ret mi_k128 (by rfl) (hP 0 (oz1249 fi_6659.2 s6 z2.1 z2.2 z8.1 z8.2 kn1 kn0))
          ·
            subst eg7
            have z9 : ¬ (((0 : Int32).toInt ≤ x2.toInt) ∧ (x2.toInt ≤ ((i 6659) - 1).toInt)) := hg7
            first | refine ft_go mi_k128 2 57 [(3, .ref 104), (0, .ref 0), (1, .int x1), (2, .int x2)] [.int (-13)] i a q r (by rfl) ?_ | refine ko_steps mi_in128 2 _ (57, [(3, .ref 104), (0, .ref 0), (1, .int x1), (2, .int x2)], [.int (-13)], (0, 0), ks i a q r) (by rfl) ?_
            exact ft_ret mi_k128 (by rfl) (hP (-13) (oz1250 knm13))
        ·
          have c10 : (i 6656).toInt ≠ (2 : Int32).toInt := kd_eqF c; clear c
          first | refine ft_go mi_k128 1 36 [(3, .ref 104), (0, .ref 0), (1, .int x1), (2, .int x2)] [.int (-12)] i a q r (by rfl) ?_ | refine ko_steps mi_in128 1 _ (36, [(3, .ref 104), (0, .ref 0), (1, .int x1), (2, .int x2)], [.int (-12)], (0, 0), ks i a q r) (by rfl) ?_
          exact ft_ret mi_k128 (by rfl) (hP (-12) (oz1251 knm12))
      ·
        have c11 : (i 6656).toInt = (0 : Int32).toInt := kd_neF c; clear c
        first | refine ft_go mi_k128 1 25 [(3, .ref 104), (0, .ref 0), (1, .int x1), (2, .int x2)] [.int (-11)] i a q r (by rfl) ?_ | refine ko_steps mi_in128 1 _ (25, [(3, .ref 104), (0, .ref 0), (1, .int x1), (2, .int x2)], [.int (-11)], (0, 0), ks i a q r) (by rfl) ?_
        exact ft_ret mi_k128 (by rfl) (hP (-11) (oz1252 knm11))
    by_cases w12 : x1.toInt = 1
    ·
      refine ko_eq (x1 := (14, [(0, .ref 0), (1, .int x1), (2, .int x2)], [.int 1, .ref 97], (0, 0), ks i a q r)) (by rw [(kj_eq w12 (by decide) : x1 = 1)]) ?_
      have fi_6784 : ((0 : Int) ≤ (i 6784).toInt) ∧ ((i 6784).toInt ≤ 2) := hG.I.1 6784
      first | refine ft_go mi_k128 4 20 [(3, .ref 106), (0, .ref 0), (1, .int x1), (2, .int x2)] [.int (i 6784)] i a q r (by rfl) ?_ | refine ko_steps mi_in128 4 _ (20, [(3, .ref 106), (0, .ref 0), (1, .int x1), (2, .int x2)], [.int (i 6784)], (0, 0), ks i a q r) (by rfl) ?_
      refine ft_if mi_k128 ((i 6784) != 0) 26 23 [(3, .ref 106), (0, .ref 0), (1, .int x1), (2, .int x2)] [] (by rfl) (fun c => ?_) (fun c => ?_)
      ·
        have c13 : (i 6784).toInt ≠ (0 : Int32).toInt := kd_ne c; clear c
        first | refine ft_go mi_k128 3 31 [(3, .ref 106), (0, .ref 0), (1, .int x1), (2, .int x2)] [.int 2, .int (i 6784)] i a q r (by rfl) ?_ | refine ko_steps mi_in128 3 _ (31, [(3, .ref 106), (0, .ref 0), (1, .int x1), (2, .int x2)], [.int 2, .int (i 6784)], (0, 0), ks i a q r) (by rfl) ?_
        refine ft_if mi_k128 ((i 6784) == 2) 37 34 [(3, .ref 106), (0, .ref 0), (1, .int x1), (2, .int x2)] [] (by rfl) (fun c => ?_) (fun c => ?_)
        ·
          have c14 : (i 6784).toInt = (2 : Int32).toInt := kd_eq c; clear c
          have fi_6787 : ((0 : Int) ≤ (i 6787).toInt) ∧ ((i 6787).toInt ≤ 60) := hG.I.1 6787
          have s15 : ((i 6787) - 1).toInt = (i 6787).toInt - (1 : Int32).toInt := kd_sub (oz47 fi_6787.1 kn1) (oz602 fi_6787.2 kn1)
          first | refine ft_go mi_k128 6 45 [(3, .ref 106), (0, .ref 0), (1, .int x1), (2, .int x2)] [.int ((i 6787) - 1), .int 0, .int x2] i a q r (by rfl) ?_ | refine ko_steps mi_in128 6 _ (45, [(3, .ref 106), (0, .ref 0), (1, .int x1), (2, .int x2)], [.int ((i 6787) - 1), .int 0, .int x2], (0, 0), ks i a q r) (by rfl) ?_
          refine ko_callPI mi_k128.1 (pc := 45) (ls := [(3, .ref 106), (0, .ref 0), (1, .int x1), (2, .int x2)]) (st := [.int ((i 6787) - 1), .int 0, .int x2]) (h := ks i a q r) (i := (.invokestatic 74, 3, 120, 0, 9, 0, 152)) (mi_k128.2 _ _ (by rfl)) (ft_invS mi_pq120 (by rfl)) (cy := mi_c120) mi_pq120 rfl (kc120 hG.I hG.R x2 0 ((i 6787) - 1)) (by decide) ?_
          intro vg16 hg16
          rcases hg16 with ⟨eg16, hg16⟩ | ⟨eg16, hg16⟩
          ·
            subst eg16
            have z17 : ((0 : Int32).toInt ≤ x2.toInt) ∧ (x2.toInt ≤ ((i 6787) - 1).toInt) := hg16
            first | refine ft_go mi_k128 3 57 [(3, .ref 106), (0, .ref 0), (1, .int x1), (2, .int x2)] [.int 0] i a q r (by rfl) ?_ | refine ko_steps mi_in128 3 _ (57, [(3, .ref 106), (0, .ref 0), (1, .int x1), (2, .int x2)], [.int 0], (0, 0), ks i a q r) (by rfl) ?_
            exact ft_ret mi_k128 (by rfl) (hP 0 (oz1253 fi_6787.2 s15 w12 z17.1 z17.2 z2.2 kn1 kn0))
          ·
            subst eg16
            have z18 : ¬ (((0 : Int32).toInt ≤ x2.toInt) ∧ (x2.toInt ≤ ((i 6787) - 1).toInt)) := hg16
            first | refine ft_go mi_k128 2 57 [(3, .ref 106), (0, .ref 0), (1, .int x1), (2, .int x2)] [.int (-13)] i a q r (by rfl) ?_ | refine ko_steps mi_in128 2 _ (57, [(3, .ref 106), (0, .ref 0), (1, .int x1), (2, .int x2)], [.int (-13)], (0, 0), ks i a q r) (by rfl) ?_
            exact ft_ret mi_k128 (by rfl) (hP (-13) (oz1250 knm13))
        ·
          have c19 : (i 6784).toInt ≠ (2 : Int32).toInt := kd_eqF c; clear c
          first | refine ft_go mi_k128 1 36 [(3, .ref 106), (0, .ref 0), (1, .int x1), (2, .int x2)] [.int (-12)] i a q r (by rfl) ?_ | refine ko_steps mi_in128 1 _ (36, [(3, .ref 106), (0, .ref 0), (1, .int x1), (2, .int x2)], [.int (-12)], (0, 0), ks i a q r) (by rfl) ?_
          exact ft_ret mi_k128 (by rfl) (hP (-12) (oz1251 knm12))
      ·
        have c20 : (i 6784).toInt = (0 : Int32).toInt := kd_neF c; clear c
        first | refine ft_go mi_k128 1 25 [(3, .ref 106), (0, .ref 0), (1, .int x1), (2, .int x2)] [.int (-11)] i a q r (by rfl) ?_ | refine ko_steps mi_in128 1 _ (25, [(3, .ref 106), (0, .ref 0), (1, .int x1), (2, .int x2)], [.int (-11)], (0, 0), ks i a q r) (by rfl) ?_
        exact ft_ret mi_k128 (by rfl) (hP (-11) (oz1252 knm11))
    by_cases w21 : x1.toInt = 2
    ·
      refine ko_eq (x1 := (14, [(0, .ref 0), (1, .int x1), (2, .int x2)], [.int 2, .ref 97], (0, 0), ks i a q r)) (by rw [(kj_eq w21 (by decide) : x1 = 2)]) ?_
      have fi_6912 : ((0 : Int) ≤ (i 6912).toInt) ∧ ((i 6912).toInt ≤ 2) := hG.I.1 6912
      first | refine ft_go mi_k128 4 20 [(3, .ref 108), (0, .ref 0), (1, .int x1), (2, .int x2)] [.int (i 6912)] i a q r (by rfl) ?_ | refine ko_steps mi_in128 4 _ (20, [(3, .ref 108), (0, .ref 0), (1, .int x1), (2, .int x2)], [.int (i 6912)], (0, 0), ks i a q r) (by rfl) ?_
      refine ft_if mi_k128 ((i 6912) != 0) 26 23 [(3, .ref 108), (0, .ref 0), (1, .int x1), (2, .int x2)] [] (by rfl) (fun c => ?_) (fun c => ?_)
      ·
        have c22 : (i 6912).toInt ≠ (0 : Int32).toInt := kd_ne c; clear c
        first | refine ft_go mi_k128 3 31 [(3, .ref 108), (0, .ref 0), (1, .int x1), (2, .int x2)] [.int 2, .int (i 6912)] i a q r (by rfl) ?_ | refine ko_steps mi_in128 3 _ (31, [(3, .ref 108), (0, .ref 0), (1, .int x1), (2, .int x2)], [.int 2, .int (i 6912)], (0, 0), ks i a q r) (by rfl) ?_
        refine ft_if mi_k128 ((i 6912) == 2) 37 34 [(3, .ref 108), (0, .ref 0), (1, .int x1), (2, .int x2)] [] (by rfl) (fun c => ?_) (fun c => ?_)
        ·
          have c23 : (i 6912).toInt = (2 : Int32).toInt := kd_eq c; clear c
          have fi_6915 : ((0 : Int) ≤ (i 6915).toInt) ∧ ((i 6915).toInt ≤ 60) := hG.I.1 6915
          have s24 : ((i 6915) - 1).toInt = (i 6915).toInt - (1 : Int32).toInt := kd_sub (oz47 fi_6915.1 kn1) (oz602 fi_6915.2 kn1)
          first | refine ft_go mi_k128 6 45 [(3, .ref 108), (0, .ref 0), (1, .int x1), (2, .int x2)] [.int ((i 6915) - 1), .int 0, .int x2] i a q r (by rfl) ?_ | refine ko_steps mi_in128 6 _ (45, [(3, .ref 108), (0, .ref 0), (1, .int x1), (2, .int x2)], [.int ((i 6915) - 1), .int 0, .int x2], (0, 0), ks i a q r) (by rfl) ?_
          refine ko_callPI mi_k128.1 (pc := 45) (ls := [(3, .ref 108), (0, .ref 0), (1, .int x1), (2, .int x2)]) (st := [.int ((i 6915) - 1), .int 0, .int x2]) (h := ks i a q r) (i := (.invokestatic 74, 3, 120, 0, 9, 0, 152)) (mi_k128.2 _ _ (by rfl)) (ft_invS mi_pq120 (by rfl)) (cy := mi_c120) mi_pq120 rfl (kc120 hG.I hG.R x2 0 ((i 6915) - 1)) (by decide) ?_
          intro vg25 hg25
          rcases hg25 with ⟨eg25, hg25⟩ | ⟨eg25, hg25⟩
          ·
            subst eg25
            have z26 : ((0 : Int32).toInt ≤ x2.toInt) ∧ (x2.toInt ≤ ((i 6915) - 1).toInt) := hg25
            first | refine ft_go mi_k128 3 57 [(3, .ref 108), (0, .ref 0), (1, .int x1), (2, .int x2)] [.int 0] i a q r (by rfl) ?_ | refine ko_steps mi_in128 3 _ (57, [(3, .ref 108), (0, .ref 0), (1, .int x1), (2, .int x2)], [.int 0], (0, 0), ks i a q r) (by rfl) ?_
            exact ft_ret mi_k128 (by rfl) (hP 0 (oz1254 fi_6915.2 s24 w21 z2.2 z26.1 z26.2 kn1 kn0))
          ·
            subst eg25
            have z27 : ¬ (((0 : Int32).toInt ≤ x2.toInt) ∧ (x2.toInt ≤ ((i 6915) - 1).toInt)) := hg25
            first | refine ft_go mi_k128 2 57 [(3, .ref 108), (0, .ref 0), (1, .int x1), (2, .int x2)] [.int (-13)] i a q r (by rfl) ?_ | refine ko_steps mi_in128 2 _ (57, [(3, .ref 108), (0, .ref 0), (1, .int x1), (2, .int x2)], [.int (-13)], (0, 0), ks i a q r) (by rfl) ?_
            exact ft_ret mi_k128 (by rfl) (hP (-13) (oz1250 knm13))
        ·
          have c28 : (i 6912).toInt ≠ (2 : Int32).toInt := kd_eqF c; clear c
          first | refine ft_go mi_k128 1 36 [(3, .ref 108), (0, .ref 0), (1, .int x1), (2, .int x2)] [.int (-12)] i a q r (by rfl) ?_ | refine ko_steps mi_in128 1 _ (36, [(3, .ref 108), (0, .ref 0), (1, .int x1), (2, .int x2)], [.int (-12)], (0, 0), ks i a q r) (by rfl) ?_
          exact ft_ret mi_k128 (by rfl) (hP (-12) (oz1251 knm12))
      ·
        have c29 : (i 6912).toInt = (0 : Int32).toInt := kd_neF c; clear c
        first | refine ft_go mi_k128 1 25 [(3, .ref 108), (0, .ref 0), (1, .int x1), (2, .int x2)] [.int (-11)] i a q r (by rfl) ?_ | refine ko_steps mi_in128 1 _ (25, [(3, .ref 108), (0, .ref 0), (1, .int x1), (2, .int x2)], [.int (-11)], (0, 0), ks i a q r) (by rfl) ?_
        exact ft_ret mi_k128 (by rfl) (hP (-11) (oz1252 knm11))
    by_cases w30 : x1.toInt = 3
    ·
      refine ko_eq (x1 := (14, [(0, .ref 0), (1, .int x1), (2, .int x2)], [.int 3, .ref 97], (0, 0), ks i a q r)) (by rw [(kj_eq w30 (by decide) : x1 = 3)]) ?_
      have fi_7040 : ((0 : Int) ≤ (i 7040).toInt) ∧ ((i 7040).toInt ≤ 2) := hG.I.1 7040
      first | refine ft_go mi_k128 4 20 [(3, .ref 110), (0, .ref 0), (1, .int x1), (2, .int x2)] [.int (i 7040)] i a q r (by rfl) ?_ | refine ko_steps mi_in128 4 _ (20, [(3, .ref 110), (0, .ref 0), (1, .int x1), (2, .int x2)], [.int (i 7040)], (0, 0), ks i a q r) (by rfl) ?_
      refine ft_if mi_k128 ((i 7040) != 0) 26 23 [(3, .ref 110), (0, .ref 0), (1, .int x1), (2, .int x2)] [] (by rfl) (fun c => ?_) (fun c => ?_)
      ·
        have c31 : (i 7040).toInt ≠ (0 : Int32).toInt := kd_ne c; clear c
        first | refine ft_go mi_k128 3 31 [(3, .ref 110), (0, .ref 0), (1, .int x1), (2, .int x2)] [.int 2, .int (i 7040)] i a q r (by rfl) ?_ | refine ko_steps mi_in128 3 _ (31, [(3, .ref 110), (0, .ref 0), (1, .int x1), (2, .int x2)], [.int 2, .int (i 7040)], (0, 0), ks i a q r) (by rfl) ?_
        refine ft_if mi_k128 ((i 7040) == 2) 37 34 [(3, .ref 110), (0, .ref 0), (1, .int x1), (2, .int x2)] [] (by rfl) (fun c => ?_) (fun c => ?_)
        ·
          have c32 : (i 7040).toInt = (2 : Int32).toInt := kd_eq c; clear c
          have fi_7043 : ((0 : Int) ≤ (i 7043).toInt) ∧ ((i 7043).toInt ≤ 60) := hG.I.1 7043
          have s33 : ((i 7043) - 1).toInt = (i 7043).toInt - (1 : Int32).toInt := kd_sub (oz47 fi_7043.1 kn1) (oz602 fi_7043.2 kn1)
          first | refine ft_go mi_k128 6 45 [(3, .ref 110), (0, .ref 0), (1, .int x1), (2, .int x2)] [.int ((i 7043) - 1), .int 0, .int x2] i a q r (by rfl) ?_ | refine ko_steps mi_in128 6 _ (45, [(3, .ref 110), (0, .ref 0), (1, .int x1), (2, .int x2)], [.int ((i 7043) - 1), .int 0, .int x2], (0, 0), ks i a q r) (by rfl) ?_
          refine ko_callPI mi_k128.1 (pc := 45) (ls := [(3, .ref 110), (0, .ref 0), (1, .int x1), (2, .int x2)]) (st := [.int ((i 7043) - 1), .int 0, .int x2]) (h := ks i a q r) (i := (.invokestatic 74, 3, 120, 0, 9, 0, 152)) (mi_k128.2 _ _ (by rfl)) (ft_invS mi_pq120 (by rfl)) (cy := mi_c120) mi_pq120 rfl (kc120 hG.I hG.R x2 0 ((i 7043) - 1)) (by decide) ?_
          intro vg34 hg34
          rcases hg34 with ⟨eg34, hg34⟩ | ⟨eg34, hg34⟩
          ·
            subst eg34
            have z35 : ((0 : Int32).toInt ≤ x2.toInt) ∧ (x2.toInt ≤ ((i 7043) - 1).toInt) := hg34
            first | refine ft_go mi_k128 3 57 [(3, .ref 110), (0, .ref 0), (1, .int x1), (2, .int x2)] [.int 0] i a q r (by rfl) ?_ | refine ko_steps mi_in128 3 _ (57, [(3, .ref 110), (0, .ref 0), (1, .int x1), (2, .int x2)], [.int 0], (0, 0), ks i a q r) (by rfl) ?_
            exact ft_ret mi_k128 (by rfl) (hP 0 (oz1255 fi_7043.2 s33 w30 z2.2 z35.1 z35.2 kn1 kn0))
          ·
            subst eg34
            have z36 : ¬ (((0 : Int32).toInt ≤ x2.toInt) ∧ (x2.toInt ≤ ((i 7043) - 1).toInt)) := hg34
            first | refine ft_go mi_k128 2 57 [(3, .ref 110), (0, .ref 0), (1, .int x1), (2, .int x2)] [.int (-13)] i a q r (by rfl) ?_ | refine ko_steps mi_in128 2 _ (57, [(3, .ref 110), (0, .ref 0), (1, .int x1), (2, .int x2)], [.int (-13)], (0, 0), ks i a q r) (by rfl) ?_
            exact ft_ret mi_k128 (by rfl) (hP (-13) (oz1250 knm13))
        ·
          have c37 : (i 7040).toInt ≠ (2 : Int32).toInt := kd_eqF c; clear c
          first | refine ft_go mi_k128 1 36 [(3, .ref 110), (0, .ref 0), (1, .int x1), (2, .int x2)] [.int (-12)] i a q r (by rfl) ?_ | refine ko_steps mi_in128 1 _ (36, [(3, .ref 110), (0, .ref 0), (1, .int x1), (2, .int x2)], [.int (-12)], (0, 0), ks i a q r) (by rfl) ?_
          exact ft_ret mi_k128 (by rfl) (hP (-12) (oz1251 knm12))
      ·
        have c38 : (i 7040).toInt = (0 : Int32).toInt := kd_neF c; clear c
        first | refine ft_go mi_k128 1 25 [(3, .ref 110), (0, .ref 0), (1, .int x1), (2, .int x2)] [.int (-11)] i a q r (by rfl) ?_ | refine ko_steps mi_in128 1 _ (25, [(3, .ref 110), (0, .ref 0), (1, .int x1), (2, .int x2)], [.int (-11)], (0, 0), ks i a q r) (by rfl) ?_
        exact ft_ret mi_k128 (by rfl) (hP (-11) (oz1252 knm11))
    by_cases w39 : x1.toInt = 4
    ·
      refine ko_eq (x1 := (14, [(0, .ref 0), (1, .int x1), (2, .int x2)], [.int 4, .ref 97], (0, 0), ks i a q r)) (by rw [(kj_eq w39 (by decide) : x1 = 4)]) ?_
      have fi_7168 : ((0 : Int) ≤ (i 7168).toInt) ∧ ((i 7168).toInt ≤ 2) := hG.I.1 7168
      first | refine ft_go mi_k128 4 20 [(3, .ref 112), (0, .ref 0), (1, .int x1), (2, .int x2)] [.int (i 7168)] i a q r (by rfl) ?_ | refine ko_steps mi_in128 4 _ (20, [(3, .ref 112), (0, .ref 0), (1, .int x1), (2, .int x2)], [.int (i 7168)], (0, 0), ks i a q r) (by rfl) ?_
      refine ft_if mi_k128 ((i 7168) != 0) 26 23 [(3, .ref 112), (0, .ref 0), (1, .int x1), (2, .int x2)] [] (by rfl) (fun c => ?_) (fun c => ?_)
      ·
        have c40 : (i 7168).toInt ≠ (0 : Int32).toInt := kd_ne c; clear c
        first | refine ft_go mi_k128 3 31 [(3, .ref 112), (0, .ref 0), (1, .int x1), (2, .int x2)] [.int 2, .int (i 7168)] i a q r (by rfl) ?_ | refine ko_steps mi_in128 3 _ (31, [(3, .ref 112), (0, .ref 0), (1, .int x1), (2, .int x2)], [.int 2, .int (i 7168)], (0, 0), ks i a q r) (by rfl) ?_
        refine ft_if mi_k128 ((i 7168) == 2) 37 34 [(3, .ref 112), (0, .ref 0), (1, .int x1), (2, .int x2)] [] (by rfl) (fun c => ?_) (fun c => ?_)
        ·
          have c41 : (i 7168).toInt = (2 : Int32).toInt := kd_eq c; clear c
          have fi_7171 : ((0 : Int) ≤ (i 7171).toInt) ∧ ((i 7171).toInt ≤ 60) := hG.I.1 7171
          have s42 : ((i 7171) - 1).toInt = (i 7171).toInt - (1 : Int32).toInt := kd_sub (oz47 fi_7171.1 kn1) (oz602 fi_7171.2 kn1)
          first | refine ft_go mi_k128 6 45 [(3, .ref 112), (0, .ref 0), (1, .int x1), (2, .int x2)] [.int ((i 7171) - 1), .int 0, .int x2] i a q r (by rfl) ?_ | refine ko_steps mi_in128 6 _ (45, [(3, .ref 112), (0, .ref 0), (1, .int x1), (2, .int x2)], [.int ((i 7171) - 1), .int 0, .int x2], (0, 0), ks i a q r) (by rfl) ?_
          refine ko_callPI mi_k128.1 (pc := 45) (ls := [(3, .ref 112), (0, .ref 0), (1, .int x1), (2, .int x2)]) (st := [.int ((i 7171) - 1), .int 0, .int x2]) (h := ks i a q r) (i := (.invokestatic 74, 3, 120, 0, 9, 0, 152)) (mi_k128.2 _ _ (by rfl)) (ft_invS mi_pq120 (by rfl)) (cy := mi_c120) mi_pq120 rfl (kc120 hG.I hG.R x2 0 ((i 7171) - 1)) (by decide) ?_
          intro vg43 hg43
          rcases hg43 with ⟨eg43, hg43⟩ | ⟨eg43, hg43⟩
          ·
            subst eg43
            have z44 : ((0 : Int32).toInt ≤ x2.toInt) ∧ (x2.toInt ≤ ((i 7171) - 1).toInt) := hg43
            first | refine ft_go mi_k128 3 57 [(3, .ref 112), (0, .ref 0), (1, .int x1), (2, .int x2)] [.int 0] i a q r (by rfl) ?_ | refine ko_steps mi_in128 3 _ (57, [(3, .ref 112), (0, .ref 0), (1, .int x1), (2, .int x2)], [.int 0], (0, 0), ks i a q r) (by rfl) ?_
            exact ft_ret mi_k128 (by rfl) (hP 0 (oz1256 fi_7171.2 s42 w39 z2.2 z44.1 z44.2 kn1 kn0))
          ·
            subst eg43
            have z45 : ¬ (((0 : Int32).toInt ≤ x2.toInt) ∧ (x2.toInt ≤ ((i 7171) - 1).toInt)) := hg43
            first | refine ft_go mi_k128 2 57 [(3, .ref 112), (0, .ref 0), (1, .int x1), (2, .int x2)] [.int (-13)] i a q r (by rfl) ?_ | refine ko_steps mi_in128 2 _ (57, [(3, .ref 112), (0, .ref 0), (1, .int x1), (2, .int x2)], [.int (-13)], (0, 0), ks i a q r) (by rfl) ?_
            exact ft_ret mi_k128 (by rfl) (hP (-13) (oz1250 knm13))
        ·
          have c46 : (i 7168).toInt ≠ (2 : Int32).toInt := kd_eqF c; clear c
          first | refine ft_go mi_k128 1 36 [(3, .ref 112), (0, .ref 0), (1, .int x1), (2, .int x2)] [.int (-12)] i a q r (by rfl) ?_ | refine ko_steps mi_in128 1 _ (36, [(3, .ref 112), (0, .ref 0), (1, .int x1), (2, .int x2)], [.int (-12)], (0, 0), ks i a q r) (by rfl) ?_
          exact ft_ret mi_k128 (by rfl) (hP (-12) (oz1251 knm12))
      ·
        have c47 : (i 7168).toInt = (0 : Int32).toInt := kd_neF c; clear c
        first | refine ft_go mi_k128 1 25 [(3, .ref 112), (0, .ref 0), (1, .int x1), (2, .int x2)] [.int (-11)] i a q r (by rfl) ?_ | refine ko_steps mi_in128 1 _ (25, [(3, .ref 112), (0, .ref 0), (1, .int x1), (2, .int x2)], [.int (-11)], (0, 0), ks i a q r) (by rfl) ?_
        exact ft_ret mi_k128 (by rfl) (hP (-11) (oz1252 knm11))
    by_cases w48 : x1.toInt = 5
    ·
      refine ko_eq (x1 := (14, [(0, .ref 0), (1, .int x1), (2, .int x2)], [.int 5, .ref 97], (0, 0), ks i a q r)) (by rw [(kj_eq w48 (by decide) : x1 = 5)]) ?_
      have fi_7296 : ((0 : Int) ≤ (i 7296).toInt) ∧ ((i 7296).toInt ≤ 2) := hG.I.1 7296
      first | refine ft_go mi_k128 4 20 [(3, .ref 114), (0, .ref 0), (1, .int x1), (2, .int x2)] [.int (i 7296)] i a q r (by rfl) ?_ | refine ko_steps mi_in128 4 _ (20, [(3, .ref 114), (0, .ref 0), (1, .int x1), (2, .int x2)], [.int (i 7296)], (0, 0), ks i a q r) (by rfl) ?_
      refine ft_if mi_k128 ((i 7296) != 0) 26 23 [(3, .ref 114), (0, .ref 0), (1, .int x1), (2, .int x2)] [] (by rfl) (fun c => ?_) (fun c => ?_)
      ·
        have c49 : (i 7296).toInt ≠ (0 : Int32).toInt := kd_ne c; clear c
        first | refine ft_go mi_k128 3 31 [(3, .ref 114), (0, .ref 0), (1, .int x1), (2, .int x2)] [.int 2, .int (i 7296)] i a q r (by rfl) ?_ | refine ko_steps mi_in128 3 _ (31, [(3, .ref 114), (0, .ref 0), (1, .int x1), (2, .int x2)], [.int 2, .int (i 7296)], (0, 0), ks i a q r) (by rfl) ?_
        refine ft_if mi_k128 ((i 7296) == 2) 37 34 [(3, .ref 114), (0, .ref 0), (1, .int x1), (2, .int x2)] [] (by rfl) (fun c => ?_) (fun c => ?_)
        ·
          have c50 : (i 7296).toInt = (2 : Int32).toInt := kd_eq c; clear c
          have fi_7299 : ((0 : Int) ≤ (i 7299).toInt) ∧ ((i 7299).toInt ≤ 60) := hG.I.1 7299
          have s51 : ((i 7299) - 1).toInt = (i 7299).toInt - (1 : Int32).toInt := kd_sub (oz47 fi_7299.1 kn1) (oz602 fi_7299.2 kn1)
          first | refine ft_go mi_k128 6 45 [(3, .ref 114), (0, .ref 0), (1, .int x1), (2, .int x2)] [.int ((i 7299) - 1), .int 0, .int x2] i a q r (by rfl) ?_ | refine ko_steps mi_in128 6 _ (45, [(3, .ref 114), (0, .ref 0), (1, .int x1), (2, .int x2)], [.int ((i 7299) - 1), .int 0, .int x2], (0, 0), ks i a q r) (by rfl) ?_
          refine ko_callPI mi_k128.1 (pc := 45) (ls := [(3, .ref 114), (0, .ref 0), (1, .int x1), (2, .int x2)]) (st := [.int ((i 7299) - 1), .int 0, .int x2]) (h := ks i a q r) (i := (.invokestatic 74, 3, 120, 0, 9, 0, 152)) (mi_k128.2 _ _ (by rfl)) (ft_invS mi_pq120 (by rfl)) (cy := mi_c120) mi_pq120 rfl (kc120 hG.I hG.R x2 0 ((i 7299) - 1)) (by decide) ?_
          intro vg52 hg52
          rcases hg52 with ⟨eg52, hg52⟩ | ⟨eg52, hg52⟩
          ·
            subst eg52
            have z53 : ((0 : Int32).toInt ≤ x2.toInt) ∧ (x2.toInt ≤ ((i 7299) - 1).toInt) := hg52
            first | refine ft_go mi_k128 3 57 [(3, .ref 114), (0, .ref 0), (1, .int x1), (2, .int x2)] [.int 0] i a q r (by rfl) ?_ | refine ko_steps mi_in128 3 _ (57, [(3, .ref 114), (0, .ref 0), (1, .int x1), (2, .int x2)], [.int 0], (0, 0), ks i a q r) (by rfl) ?_
            exact ft_ret mi_k128 (by rfl) (hP 0 (oz1257 fi_7299.2 s51 w48 z2.2 z53.1 z53.2 kn1 kn0))
          ·
            subst eg52
            have z54 : ¬ (((0 : Int32).toInt ≤ x2.toInt) ∧ (x2.toInt ≤ ((i 7299) - 1).toInt)) := hg52
            first | refine ft_go mi_k128 2 57 [(3, .ref 114), (0, .ref 0), (1, .int x1), (2, .int x2)] [.int (-13)] i a q r (by rfl) ?_ | refine ko_steps mi_in128 2 _ (57, [(3, .ref 114), (0, .ref 0), (1, .int x1), (2, .int x2)], [.int (-13)], (0, 0), ks i a q r) (by rfl) ?_
            exact ft_ret mi_k128 (by rfl) (hP (-13) (oz1250 knm13))
        ·
          have c55 : (i 7296).toInt ≠ (2 : Int32).toInt := kd_eqF c; clear c
          first | refine ft_go mi_k128 1 36 [(3, .ref 114), (0, .ref 0), (1, .int x1), (2, .int x2)] [.int (-12)] i a q r (by rfl) ?_ | refine ko_steps mi_in128 1 _ (36, [(3, .ref 114), (0, .ref 0), (1, .int x1), (2, .int x2)], [.int (-12)], (0, 0), ks i a q r) (by rfl) ?_
          exact ft_ret mi_k128 (by rfl) (hP (-12) (oz1251 knm12))
      ·
        have c56 : (i 7296).toInt = (0 : Int32).toInt := kd_neF c; clear c
        first | refine ft_go mi_k128 1 25 [(3, .ref 114), (0, .ref 0), (1, .int x1), (2, .int x2)] [.int (-11)] i a q r (by rfl) ?_ | refine ko_steps mi_in128 1 _ (25, [(3, .ref 114), (0, .ref 0), (1, .int x1), (2, .int x2)], [.int (-11)], (0, 0), ks i a q r) (by rfl) ?_
        exact ft_ret mi_k128 (by rfl) (hP (-11) (oz1252 knm11))
    exact (oz1008 w12 w21 w3 w30 w39 w48 z2.1 z2.2).elim
  ·
    subst eg1
    have z57 : ¬ (((0 : Int) ≤ x1.toInt) ∧ (x1.toInt ≤ 5)) := hg1
    first | refine ft_go mi_k128 2 8 [(0, .ref 0), (1, .int x1), (2, .int x2)] [.int (-1)] i a q r (by rfl) ?_ | refine ko_steps mi_in128 2 _ (8, [(0, .ref 0), (1, .int x1), (2, .int x2)], [.int (-1)], (0, 0), ks i a q r) (by rfl) ?_
    exact ft_ret mi_k128 (by rfl) (hP (-1) (oz1258 knm1))
set_option maxRecDepth 100000 in
theorem kc40_104 {i : Nat → Int32} {a : Nat → List Int32} {q : Nat → List Int64} {r : Nat → Nat} (hI : kI i a q) (hr : kr r) (x1 : Int64) : km 1 40 [.ref 104, .long x1] (ks i a q r) (kPL (ks i a q r) (fun v => True)) := by
  have hG := kG_self kW0 hI hr
  refine km_ofPL (q := (mi_h40, mi_c40)) rfl (by decide) (Nat.le_of_ble_eq_true rfl) ?_
  intro P hP
  have fi_6658 : ((0 : Int) ≤ (i 6658).toInt) ∧ ((i 6658).toInt ≤ 4) := hG.I.1 6658
  refine ft_go mi_k40 2 4 [(0, .ref 104), (1, .long x1)] [.int (i 6658)] i a q r (by rfl) ?_
  by_cases w1 : (i 6658).toInt = 0
  ·
    refine ko_eq (x1 := (4, [(0, .ref 104), (1, .long x1)], [.int 0], (0, 0), ks i a q r)) (by rw [(kj_eq w1 (by decide) : (i 6658) = 0)]) ?_
    have b2 : ((-2147483648 : Int) ≤ x1.toInt32.toInt8.toInt32.toInt) ∧ (x1.toInt32.toInt8.toInt32.toInt ≤ 2147483647) := kd_bd x1.toInt32.toInt8.toInt32
    have s3 : x1.toInt32.toInt8.toInt32.toInt64.toInt = x1.toInt32.toInt8.toInt32.toInt := kl_i2l
    refine ft_go mi_k40 5 40 [(0, .ref 104), (1, .long x1)] [.long x1.toInt32.toInt8.toInt32.toInt64] i a q r (by rfl) ?_
    exact ft_ret mi_k40 (by rfl) (hP x1.toInt32.toInt8.toInt32.toInt64 trivial)
  by_cases w4 : (i 6658).toInt = 1
  ·
    refine ko_eq (x1 := (4, [(0, .ref 104), (1, .long x1)], [.int 1], (0, 0), ks i a q r)) (by rw [(kj_eq w4 (by decide) : (i 6658) = 1)]) ?_
    have b5 : ((-2147483648 : Int) ≤ x1.toInt32.toInt16.toInt32.toInt) ∧ (x1.toInt32.toInt16.toInt32.toInt ≤ 2147483647) := kd_bd x1.toInt32.toInt16.toInt32
    have s6 : x1.toInt32.toInt16.toInt32.toInt64.toInt = x1.toInt32.toInt16.toInt32.toInt := kl_i2l
    refine ft_go mi_k40 5 45 [(0, .ref 104), (1, .long x1)] [.long x1.toInt32.toInt16.toInt32.toInt64] i a q r (by rfl) ?_
    exact ft_ret mi_k40 (by rfl) (hP x1.toInt32.toInt16.toInt32.toInt64 trivial)
  by_cases w7 : (i 6658).toInt = 2
  ·
    refine ko_eq (x1 := (4, [(0, .ref 104), (1, .long x1)], [.int 2], (0, 0), ks i a q r)) (by rw [(kj_eq w7 (by decide) : (i 6658) = 2)]) ?_
    have b8 : ((-2147483648 : Int) ≤ x1.toInt32.toInt) ∧ (x1.toInt32.toInt ≤ 2147483647) := kd_bd x1.toInt32
    have s9 : x1.toInt32.toInt64.toInt = x1.toInt32.toInt := kl_i2l
    refine ft_go mi_k40 4 49 [(0, .ref 104), (1, .long x1)] [.long x1.toInt32.toInt64] i a q r (by rfl) ?_
    exact ft_ret mi_k40 (by rfl) (hP x1.toInt32.toInt64 trivial)
  by_cases w10 : (i 6658).toInt = 3
  ·
    refine ko_eq (x1 := (4, [(0, .ref 104), (1, .long x1)], [.int 3], (0, 0), ks i a q r)) (by rw [(kj_eq w10 (by decide) : (i 6658) = 3)]) ?_
    refine ft_go mi_k40 2 51 [(0, .ref 104), (1, .long x1)] [.long x1] i a q r (by rfl) ?_
    exact ft_ret mi_k40 (by rfl) (hP x1 trivial)
  refine ko_sw (ls := [(0, .ref 104), (1, .long x1)]) (r := []) (h := ks i a q r) mi_in40 (v := (i 6658)) (i := (.tableswitch 48 0 3 #[32, 37, 42, 46], 32, 0, 0, 0, 0, 0)) (by rfl) rfl (oz605 w1 w4 w7 w10) 52 (by rfl) ?_
  have s11 : (((lg_cmp x1 0).toInt < 0 ↔ x1.toInt < (0 : Int64).toInt)) ∧ ((0 < (lg_cmp x1 0).toInt ↔ (0 : Int64).toInt < x1.toInt)) := kl_cmp
  refine ft_go mi_k40 3 55 [(0, .ref 104), (1, .long x1)] [.int (lg_cmp x1 0)] i a q r (by rfl) ?_
  refine ft_if mi_k40 ((lg_cmp x1 0) == 0) 62 58 [(0, .ref 104), (1, .long x1)] [] (by rfl) (fun c => ?_) (fun c => ?_)
  ·
    have c12 : (lg_cmp x1 0).toInt = (0 : Int32).toInt := kd_eq c; clear c
    refine ft_go mi_k40 1 63 [(0, .ref 104), (1, .long x1)] [.long 0] i a q r (by rfl) ?_
    exact ft_ret mi_k40 (by rfl) (hP 0 trivial)
  ·
    have c13 : (lg_cmp x1 0).toInt ≠ (0 : Int32).toInt := kd_eqF c; clear c
    refine ft_go mi_k40 2 63 [(0, .ref 104), (1, .long x1)] [.long 1] i a q r (by rfl) ?_
    exact ft_ret mi_k40 (by rfl) (hP 1 trivial)
set_option maxRecDepth 100000 in
theorem kc40_106 {i : Nat → Int32} {a : Nat → List Int32} {q : Nat → List Int64} {r : Nat → Nat} (hI : kI i a q) (hr : kr r) (x1 : Int64) : km 1 40 [.ref 106, .long x1] (ks i a q r) (kPL (ks i a q r) (fun v => True)) := by
  have hG := kG_self kW0 hI hr
  refine km_ofPL (q := (mi_h40, mi_c40)) rfl (by decide) (Nat.le_of_ble_eq_true rfl) ?_
  intro P hP
  have fi_6786 : ((0 : Int) ≤ (i 6786).toInt) ∧ ((i 6786).toInt ≤ 4) := hG.I.1 6786
  refine ft_go mi_k40 2 4 [(0, .ref 106), (1, .long x1)] [.int (i 6786)] i a q r (by rfl) ?_
  by_cases w1 : (i 6786).toInt = 0
  ·
    refine ko_eq (x1 := (4, [(0, .ref 106), (1, .long x1)], [.int 0], (0, 0), ks i a q r)) (by rw [(kj_eq w1 (by decide) : (i 6786) = 0)]) ?_
    have b2 : ((-2147483648 : Int) ≤ x1.toInt32.toInt8.toInt32.toInt) ∧ (x1.toInt32.toInt8.toInt32.toInt ≤ 2147483647) := kd_bd x1.toInt32.toInt8.toInt32
    have s3 : x1.toInt32.toInt8.toInt32.toInt64.toInt = x1.toInt32.toInt8.toInt32.toInt := kl_i2l
    refine ft_go mi_k40 5 40 [(0, .ref 106), (1, .long x1)] [.long x1.toInt32.toInt8.toInt32.toInt64] i a q r (by rfl) ?_
    exact ft_ret mi_k40 (by rfl) (hP x1.toInt32.toInt8.toInt32.toInt64 trivial)
  by_cases w4 : (i 6786).toInt = 1
  ·
    refine ko_eq (x1 := (4, [(0, .ref 106), (1, .long x1)], [.int 1], (0, 0), ks i a q r)) (by rw [(kj_eq w4 (by decide) : (i 6786) = 1)]) ?_
    have b5 : ((-2147483648 : Int) ≤ x1.toInt32.toInt16.toInt32.toInt) ∧ (x1.toInt32.toInt16.toInt32.toInt ≤ 2147483647) := kd_bd x1.toInt32.toInt16.toInt32
    have s6 : x1.toInt32.toInt16.toInt32.toInt64.toInt = x1.toInt32.toInt16.toInt32.toInt := kl_i2l
    refine ft_go mi_k40 5 45 [(0, .ref 106), (1, .long x1)] [.long x1.toInt32.toInt16.toInt32.toInt64] i a q r (by rfl) ?_
    exact ft_ret mi_k40 (by rfl) (hP x1.toInt32.toInt16.toInt32.toInt64 trivial)
  by_cases w7 : (i 6786).toInt = 2
  ·
    refine ko_eq (x1 := (4, [(0, .ref 106), (1, .long x1)], [.int 2], (0, 0), ks i a q r)) (by rw [(kj_eq w7 (by decide) : (i 6786) = 2)]) ?_
    have b8 : ((-2147483648 : Int) ≤ x1.toInt32.toInt) ∧ (x1.toInt32.toInt ≤ 2147483647) := kd_bd x1.toInt32
    have s9 : x1.toInt32.toInt64.toInt = x1.toInt32.toInt := kl_i2l
    refine ft_go mi_k40 4 49 [(0, .ref 106), (1, .long x1)] [.long x1.toInt32.toInt64] i a q r (by rfl) ?_
    exact ft_ret mi_k40 (by rfl) (hP x1.toInt32.toInt64 trivial)
  by_cases w10 : (i 6786).toInt = 3
  ·
    refine ko_eq (x1 := (4, [(0, .ref 106), (1, .long x1)], [.int 3], (0, 0), ks i a q r)) (by rw [(kj_eq w10 (by decide) : (i 6786) = 3)]) ?_
    refine ft_go mi_k40 2 51 [(0, .ref 106), (1, .long x1)] [.long x1] i a q r (by rfl) ?_
    exact ft_ret mi_k40 (by rfl) (hP x1 trivial)
  refine ko_sw (ls := [(0, .ref 106), (1, .long x1)]) (r := []) (h := ks i a q r) mi_in40 (v := (i 6786)) (i := (.tableswitch 48 0 3 #[32, 37, 42, 46], 32, 0, 0, 0, 0, 0)) (by rfl) rfl (oz605 w1 w4 w7 w10) 52 (by rfl) ?_
  have s11 : (((lg_cmp x1 0).toInt < 0 ↔ x1.toInt < (0 : Int64).toInt)) ∧ ((0 < (lg_cmp x1 0).toInt ↔ (0 : Int64).toInt < x1.toInt)) := kl_cmp
  refine ft_go mi_k40 3 55 [(0, .ref 106), (1, .long x1)] [.int (lg_cmp x1 0)] i a q r (by rfl) ?_
  refine ft_if mi_k40 ((lg_cmp x1 0) == 0) 62 58 [(0, .ref 106), (1, .long x1)] [] (by rfl) (fun c => ?_) (fun c => ?_)
  ·
    have c12 : (lg_cmp x1 0).toInt = (0 : Int32).toInt := kd_eq c; clear c
    refine ft_go mi_k40 1 63 [(0, .ref 106), (1, .long x1)] [.long 0] i a q r (by rfl) ?_
    exact ft_ret mi_k40 (by rfl) (hP 0 trivial)
  ·
    have c13 : (lg_cmp x1 0).toInt ≠ (0 : Int32).toInt := kd_eqF c; clear c
    refine ft_go mi_k40 2 63 [(0, .ref 106), (1, .long x1)] [.long 1] i a q r (by rfl) ?_
    exact ft_ret mi_k40 (by rfl) (hP 1 trivial)
set_option maxRecDepth 100000 in
theorem kc40_108 {i : Nat → Int32} {a : Nat → List Int32} {q : Nat → List Int64} {r : Nat → Nat} (hI : kI i a q) (hr : kr r) (x1 : Int64) : km 1 40 [.ref 108, .long x1] (ks i a q r) (kPL (ks i a q r) (fun v => True)) := by
  have hG := kG_self kW0 hI hr
  refine km_ofPL (q := (mi_h40, mi_c40)) rfl (by decide) (Nat.le_of_ble_eq_true rfl) ?_
  intro P hP
  have fi_6914 : ((0 : Int) ≤ (i 6914).toInt) ∧ ((i 6914).toInt ≤ 4) := hG.I.1 6914
  refine ft_go mi_k40 2 4 [(0, .ref 108), (1, .long x1)] [.int (i 6914)] i a q r (by rfl) ?_
  by_cases w1 : (i 6914).toInt = 0
  ·
    refine ko_eq (x1 := (4, [(0, .ref 108), (1, .long x1)], [.int 0], (0, 0), ks i a q r)) (by rw [(kj_eq w1 (by decide) : (i 6914) = 0)]) ?_
    have b2 : ((-2147483648 : Int) ≤ x1.toInt32.toInt8.toInt32.toInt) ∧ (x1.toInt32.toInt8.toInt32.toInt ≤ 2147483647) := kd_bd x1.toInt32.toInt8.toInt32
    have s3 : x1.toInt32.toInt8.toInt32.toInt64.toInt = x1.toInt32.toInt8.toInt32.toInt := kl_i2l
    refine ft_go mi_k40 5 40 [(0, .ref 108), (1, .long x1)] [.long x1.toInt32.toInt8.toInt32.toInt64] i a q r (by rfl) ?_
    exact ft_ret mi_k40 (by rfl) (hP x1.toInt32.toInt8.toInt32.toInt64 trivial)
  by_cases w4 : (i 6914).toInt = 1
  ·
    refine ko_eq (x1 := (4, [(0, .ref 108), (1, .long x1)], [.int 1], (0, 0), ks i a q r)) (by rw [(kj_eq w4 (by decide) : (i 6914) = 1)]) ?_
    have b5 : ((-2147483648 : Int) ≤ x1.toInt32.toInt16.toInt32.toInt) ∧ (x1.toInt32.toInt16.toInt32.toInt ≤ 2147483647) := kd_bd x1.toInt32.toInt16.toInt32
    have s6 : x1.toInt32.toInt16.toInt32.toInt64.toInt = x1.toInt32.toInt16.toInt32.toInt := kl_i2l
    refine ft_go mi_k40 5 45 [(0, .ref 108), (1, .long x1)] [.long x1.toInt32.toInt16.toInt32.toInt64] i a q r (by rfl) ?_
    exact ft_ret mi_k40 (by rfl) (hP x1.toInt32.toInt16.toInt32.toInt64 trivial)
  by_cases w7 : (i 6914).toInt = 2
  ·
    refine ko_eq (x1 := (4, [(0, .ref 108), (1, .long x1)], [.int 2], (0, 0), ks i a q r)) (by rw [(kj_eq w7 (by decide) : (i 6914) = 2)]) ?_
    have b8 : ((-2147483648 : Int) ≤ x1.toInt32.toInt) ∧ (x1.toInt32.toInt ≤ 2147483647) := kd_bd x1.toInt32
    have s9 : x1.toInt32.toInt64.toInt = x1.toInt32.toInt := kl_i2l
    refine ft_go mi_k40 4 49 [(0, .ref 108), (1, .long x1)] [.long x1.toInt32.toInt64] i a q r (by rfl) ?_
    exact ft_ret mi_k40 (by rfl) (hP x1.toInt32.toInt64 trivial)
  by_cases w10 : (i 6914).toInt = 3
  ·
    refine ko_eq (x1 := (4, [(0, .ref 108), (1, .long x1)], [.int 3], (0, 0), ks i a q r)) (by rw [(kj_eq w10 (by decide) : (i 6914) = 3)]) ?_
    refine ft_go mi_k40 2 51 [(0, .ref 108), (1, .long x1)] [.long x1] i a q r (by rfl) ?_
    exact ft_ret mi_k40 (by rfl) (hP x1 trivial)
  refine ko_sw (ls := [(0, .ref 108), (1, .long x1)]) (r := []) (h := ks i a q r) mi_in40 (v := (i 6914)) (i := (.tableswitch 48 0 3 #[32, 37, 42, 46], 32, 0, 0, 0, 0, 0)) (by rfl) rfl (oz605 w1 w4 w7 w10) 52 (by rfl) ?_
  have s11 : (((lg_cmp x1 0).toInt < 0 ↔ x1.toInt < (0 : Int64).toInt)) ∧ ((0 < (lg_cmp x1 0).toInt ↔ (0 : Int64).toInt < x1.toInt)) := kl_cmp
  refine ft_go mi_k40 3 55 [(0, .ref 108), (1, .long x1)] [.int (lg_cmp x1 0)] i a q r (by rfl) ?_
  refine ft_if mi_k40 ((lg_cmp x1 0) == 0) 62 58 [(0, .ref 108), (1, .long x1)] [] (by rfl) (fun c => ?_) (fun c => ?_)
  ·
    have c12 : (lg_cmp x1 0).toInt = (0 : Int32).toInt := kd_eq c; clear c
    refine ft_go mi_k40 1 63 [(0, .ref 108), (1, .long x1)] [.long 0] i a q r (by rfl) ?_
    exact ft_ret mi_k40 (by rfl) (hP 0 trivial)
  ·
    have c13 : (lg_cmp x1 0).toInt ≠ (0 : Int32).toInt := kd_eqF c; clear c
    refine ft_go mi_k40 2 63 [(0, .ref 108), (1, .long x1)] [.long 1] i a q r (by rfl) ?_
    exact ft_ret mi_k40 (by rfl) (hP 1 trivial)
set_option maxRecDepth 100000 in
theorem kc40_110 {i : Nat → Int32} {a : Nat → List Int32} {q : Nat → List Int64} {r : Nat → Nat} (hI : kI i a q) (hr : kr r) (x1 : Int64) : km 1 40 [.ref 110, .long x1] (ks i a q r) (kPL (ks i a q r) (fun v => True)) := by
  have hG := kG_self kW0 hI hr
  refine km_ofPL (q := (mi_h40, mi_c40)) rfl (by decide) (Nat.le_of_ble_eq_true rfl) ?_
  intro P hP
  have fi_7042 : ((0 : Int) ≤ (i 7042).toInt) ∧ ((i 7042).toInt ≤ 4) := hG.I.1 7042
  refine ft_go mi_k40 2 4 [(0, .ref 110), (1, .long x1)] [.int (i 7042)] i a q r (by rfl) ?_
  by_cases w1 : (i 7042).toInt = 0
  ·
    refine ko_eq (x1 := (4, [(0, .ref 110), (1, .long x1)], [.int 0], (0, 0), ks i a q r)) (by rw [(kj_eq w1 (by decide) : (i 7042) = 0)]) ?_
    have b2 : ((-2147483648 : Int) ≤ x1.toInt32.toInt8.toInt32.toInt) ∧ (x1.toInt32.toInt8.toInt32.toInt ≤ 2147483647) := kd_bd x1.toInt32.toInt8.toInt32
    have s3 : x1.toInt32.toInt8.toInt32.toInt64.toInt = x1.toInt32.toInt8.toInt32.toInt := kl_i2l
    refine ft_go mi_k40 5 40 [(0, .ref 110), (1, .long x1)] [.long x1.toInt32.toInt8.toInt32.toInt64] i a q r (by rfl) ?_
    exact ft_ret mi_k40 (by rfl) (hP x1.toInt32.toInt8.toInt32.toInt64 trivial)
  by_cases w4 : (i 7042).toInt = 1
  ·
    refine ko_eq (x1 := (4, [(0, .ref 110), (1, .long x1)], [.int 1], (0, 0), ks i a q r)) (by rw [(kj_eq w4 (by decide) : (i 7042) = 1)]) ?_
    have b5 : ((-2147483648 : Int) ≤ x1.toInt32.toInt16.toInt32.toInt) ∧ (x1.toInt32.toInt16.toInt32.toInt ≤ 2147483647) := kd_bd x1.toInt32.toInt16.toInt32
    have s6 : x1.toInt32.toInt16.toInt32.toInt64.toInt = x1.toInt32.toInt16.toInt32.toInt := kl_i2l
    refine ft_go mi_k40 5 45 [(0, .ref 110), (1, .long x1)] [.long x1.toInt32.toInt16.toInt32.toInt64] i a q r (by rfl) ?_
    exact ft_ret mi_k40 (by rfl) (hP x1.toInt32.toInt16.toInt32.toInt64 trivial)
  by_cases w7 : (i 7042).toInt = 2
  ·
    refine ko_eq (x1 := (4, [(0, .ref 110), (1, .long x1)], [.int 2], (0, 0), ks i a q r)) (by rw [(kj_eq w7 (by decide) : (i 7042) = 2)]) ?_
    have b8 : ((-2147483648 : Int) ≤ x1.toInt32.toInt) ∧ (x1.toInt32.toInt ≤ 2147483647) := kd_bd x1.toInt32
    have s9 : x1.toInt32.toInt64.toInt = x1.toInt32.toInt := kl_i2l
    refine ft_go mi_k40 4 49 [(0, .ref 110), (1, .long x1)] [.long x1.toInt32.toInt64] i a q r (by rfl) ?_
    exact ft_ret mi_k40 (by rfl) (hP x1.toInt32.toInt64 trivial)
  by_cases w10 : (i 7042).toInt = 3
  ·
    refine ko_eq (x1 := (4, [(0, .ref 110), (1, .long x1)], [.int 3], (0, 0), ks i a q r)) (by rw [(kj_eq w10 (by decide) : (i 7042) = 3)]) ?_
    refine ft_go mi_k40 2 51 [(0, .ref 110), (1, .long x1)] [.long x1] i a q r (by rfl) ?_
    exact ft_ret mi_k40 (by rfl) (hP x1 trivial)
  refine ko_sw (ls := [(0, .ref 110), (1, .long x1)]) (r := []) (h := ks i a q r) mi_in40 (v := (i 7042)) (i := (.tableswitch 48 0 3 #[32, 37, 42, 46], 32, 0, 0, 0, 0, 0)) (by rfl) rfl (oz605 w1 w4 w7 w10) 52 (by rfl) ?_
  have s11 : (((lg_cmp x1 0).toInt < 0 ↔ x1.toInt < (0 : Int64).toInt)) ∧ ((0 < (lg_cmp x1 0).toInt ↔ (0 : Int64).toInt < x1.toInt)) := kl_cmp
  refine ft_go mi_k40 3 55 [(0, .ref 110), (1, .long x1)] [.int (lg_cmp x1 0)] i a q r (by rfl) ?_
  refine ft_if mi_k40 ((lg_cmp x1 0) == 0) 62 58 [(0, .ref 110), (1, .long x1)] [] (by rfl) (fun c => ?_) (fun c => ?_)
  ·
    have c12 : (lg_cmp x1 0).toInt = (0 : Int32).toInt := kd_eq c; clear c
    refine ft_go mi_k40 1 63 [(0, .ref 110), (1, .long x1)] [.long 0] i a q r (by rfl) ?_
    exact ft_ret mi_k40 (by rfl) (hP 0 trivial)
  ·
    have c13 : (lg_cmp x1 0).toInt ≠ (0 : Int32).toInt := kd_eqF c; clear c
    refine ft_go mi_k40 2 63 [(0, .ref 110), (1, .long x1)] [.long 1] i a q r (by rfl) ?_
    exact ft_ret mi_k40 (by rfl) (hP 1 trivial)
set_option maxRecDepth 100000 in
theorem kc40_112 {i : Nat → Int32} {a : Nat → List Int32} {q : Nat → List Int64} {r : Nat → Nat} (hI : kI i a q) (hr : kr r) (x1 : Int64) : km 1 40 [.ref 112, .long x1] (ks i a q r) (kPL (ks i a q r) (fun v => True)) := by
  have hG := kG_self kW0 hI hr
  refine km_ofPL (q := (mi_h40, mi_c40)) rfl (by decide) (Nat.le_of_ble_eq_true rfl) ?_
  intro P hP
  have fi_7170 : ((0 : Int) ≤ (i 7170).toInt) ∧ ((i 7170).toInt ≤ 4) := hG.I.1 7170
  refine ft_go mi_k40 2 4 [(0, .ref 112), (1, .long x1)] [.int (i 7170)] i a q r (by rfl) ?_
  by_cases w1 : (i 7170).toInt = 0
  ·
    refine ko_eq (x1 := (4, [(0, .ref 112), (1, .long x1)], [.int 0], (0, 0), ks i a q r)) (by rw [(kj_eq w1 (by decide) : (i 7170) = 0)]) ?_
    have b2 : ((-2147483648 : Int) ≤ x1.toInt32.toInt8.toInt32.toInt) ∧ (x1.toInt32.toInt8.toInt32.toInt ≤ 2147483647) := kd_bd x1.toInt32.toInt8.toInt32
    have s3 : x1.toInt32.toInt8.toInt32.toInt64.toInt = x1.toInt32.toInt8.toInt32.toInt := kl_i2l
    refine ft_go mi_k40 5 40 [(0, .ref 112), (1, .long x1)] [.long x1.toInt32.toInt8.toInt32.toInt64] i a q r (by rfl) ?_
    exact ft_ret mi_k40 (by rfl) (hP x1.toInt32.toInt8.toInt32.toInt64 trivial)
  by_cases w4 : (i 7170).toInt = 1
  ·
    refine ko_eq (x1 := (4, [(0, .ref 112), (1, .long x1)], [.int 1], (0, 0), ks i a q r)) (by rw [(kj_eq w4 (by decide) : (i 7170) = 1)]) ?_
    have b5 : ((-2147483648 : Int) ≤ x1.toInt32.toInt16.toInt32.toInt) ∧ (x1.toInt32.toInt16.toInt32.toInt ≤ 2147483647) := kd_bd x1.toInt32.toInt16.toInt32
    have s6 : x1.toInt32.toInt16.toInt32.toInt64.toInt = x1.toInt32.toInt16.toInt32.toInt := kl_i2l
    refine ft_go mi_k40 5 45 [(0, .ref 112), (1, .long x1)] [.long x1.toInt32.toInt16.toInt32.toInt64] i a q r (by rfl) ?_
    exact ft_ret mi_k40 (by rfl) (hP x1.toInt32.toInt16.toInt32.toInt64 trivial)
  by_cases w7 : (i 7170).toInt = 2
  ·
    refine ko_eq (x1 := (4, [(0, .ref 112), (1, .long x1)], [.int 2], (0, 0), ks i a q r)) (by rw [(kj_eq w7 (by decide) : (i 7170) = 2)]) ?_
    have b8 : ((-2147483648 : Int) ≤ x1.toInt32.toInt) ∧ (x1.toInt32.toInt ≤ 2147483647) := kd_bd x1.toInt32
    have s9 : x1.toInt32.toInt64.toInt = x1.toInt32.toInt := kl_i2l
    refine ft_go mi_k40 4 49 [(0, .ref 112), (1, .long x1)] [.long x1.toInt32.toInt64] i a q r (by rfl) ?_
    exact ft_ret mi_k40 (by rfl) (hP x1.toInt32.toInt64 trivial)
  by_cases w10 : (i 7170).toInt = 3
  ·
    refine ko_eq (x1 := (4, [(0, .ref 112), (1, .long x1)], [.int 3], (0, 0), ks i a q r)) (by rw [(kj_eq w10 (by decide) : (i 7170) = 3)]) ?_
    refine ft_go mi_k40 2 51 [(0, .ref 112), (1, .long x1)] [.long x1] i a q r (by rfl) ?_
    exact ft_ret mi_k40 (by rfl) (hP x1 trivial)
  refine ko_sw (ls := [(0, .ref 112), (1, .long x1)]) (r := []) (h := ks i a q r) mi_in40 (v := (i 7170)) (i := (.tableswitch 48 0 3 #[32, 37, 42, 46], 32, 0, 0, 0, 0, 0)) (by rfl) rfl (oz605 w1 w4 w7 w10) 52 (by rfl) ?_
  have s11 : (((lg_cmp x1 0).toInt < 0 ↔ x1.toInt < (0 : Int64).toInt)) ∧ ((0 < (lg_cmp x1 0).toInt ↔ (0 : Int64).toInt < x1.toInt)) := kl_cmp
  refine ft_go mi_k40 3 55 [(0, .ref 112), (1, .long x1)] [.int (lg_cmp x1 0)] i a q r (by rfl) ?_
  refine ft_if mi_k40 ((lg_cmp x1 0) == 0) 62 58 [(0, .ref 112), (1, .long x1)] [] (by rfl) (fun c => ?_) (fun c => ?_)
  ·
    have c12 : (lg_cmp x1 0).toInt = (0 : Int32).toInt := kd_eq c; clear c
    refine ft_go mi_k40 1 63 [(0, .ref 112), (1, .long x1)] [.long 0] i a q r (by rfl) ?_
    exact ft_ret mi_k40 (by rfl) (hP 0 trivial)
  ·
    have c13 : (lg_cmp x1 0).toInt ≠ (0 : Int32).toInt := kd_eqF c; clear c
    refine ft_go mi_k40 2 63 [(0, .ref 112), (1, .long x1)] [.long 1] i a q r (by rfl) ?_
    exact ft_ret mi_k40 (by rfl) (hP 1 trivial)
set_option maxRecDepth 100000 in
theorem kc40_114 {i : Nat → Int32} {a : Nat → List Int32} {q : Nat → List Int64} {r : Nat → Nat} (hI : kI i a q) (hr : kr r) (x1 : Int64) : km 1 40 [.ref 114, .long x1] (ks i a q r) (kPL (ks i a q r) (fun v => True)) := by
  have hG := kG_self kW0 hI hr
  refine km_ofPL (q := (mi_h40, mi_c40)) rfl (by decide) (Nat.le_of_ble_eq_true rfl) ?_
  intro P hP
  have fi_7298 : ((0 : Int) ≤ (i 7298).toInt) ∧ ((i 7298).toInt ≤ 4) := hG.I.1 7298
  refine ft_go mi_k40 2 4 [(0, .ref 114), (1, .long x1)] [.int (i 7298)] i a q r (by rfl) ?_
  by_cases w1 : (i 7298).toInt = 0
  ·
    refine ko_eq (x1 := (4, [(0, .ref 114), (1, .long x1)], [.int 0], (0, 0), ks i a q r)) (by rw [(kj_eq w1 (by decide) : (i 7298) = 0)]) ?_
    have b2 : ((-2147483648 : Int) ≤ x1.toInt32.toInt8.toInt32.toInt) ∧ (x1.toInt32.toInt8.toInt32.toInt ≤ 2147483647) := kd_bd x1.toInt32.toInt8.toInt32
    have s3 : x1.toInt32.toInt8.toInt32.toInt64.toInt = x1.toInt32.toInt8.toInt32.toInt := kl_i2l
    refine ft_go mi_k40 5 40 [(0, .ref 114), (1, .long x1)] [.long x1.toInt32.toInt8.toInt32.toInt64] i a q r (by rfl) ?_
    exact ft_ret mi_k40 (by rfl) (hP x1.toInt32.toInt8.toInt32.toInt64 trivial)
  by_cases w4 : (i 7298).toInt = 1
  ·
    refine ko_eq (x1 := (4, [(0, .ref 114), (1, .long x1)], [.int 1], (0, 0), ks i a q r)) (by rw [(kj_eq w4 (by decide) : (i 7298) = 1)]) ?_
    have b5 : ((-2147483648 : Int) ≤ x1.toInt32.toInt16.toInt32.toInt) ∧ (x1.toInt32.toInt16.toInt32.toInt ≤ 2147483647) := kd_bd x1.toInt32.toInt16.toInt32
    have s6 : x1.toInt32.toInt16.toInt32.toInt64.toInt = x1.toInt32.toInt16.toInt32.toInt := kl_i2l
    refine ft_go mi_k40 5 45 [(0, .ref 114), (1, .long x1)] [.long x1.toInt32.toInt16.toInt32.toInt64] i a q r (by rfl) ?_
    exact ft_ret mi_k40 (by rfl) (hP x1.toInt32.toInt16.toInt32.toInt64 trivial)
  by_cases w7 : (i 7298).toInt = 2
  ·
    refine ko_eq (x1 := (4, [(0, .ref 114), (1, .long x1)], [.int 2], (0, 0), ks i a q r)) (by rw [(kj_eq w7 (by decide) : (i 7298) = 2)]) ?_
    have b8 : ((-2147483648 : Int) ≤ x1.toInt32.toInt) ∧ (x1.toInt32.toInt ≤ 2147483647) := kd_bd x1.toInt32
    have s9 : x1.toInt32.toInt64.toInt = x1.toInt32.toInt := kl_i2l
    refine ft_go mi_k40 4 49 [(0, .ref 114), (1, .long x1)] [.long x1.toInt32.toInt64] i a q r (by rfl) ?_
    exact ft_ret mi_k40 (by rfl) (hP x1.toInt32.toInt64 trivial)
  by_cases w10 : (i 7298).toInt = 3
  ·
    refine ko_eq (x1 := (4, [(0, .ref 114), (1, .long x1)], [.int 3], (0, 0), ks i a q r)) (by rw [(kj_eq w10 (by decide) : (i 7298) = 3)]) ?_
    refine ft_go mi_k40 2 51 [(0, .ref 114), (1, .long x1)] [.long x1] i a q r (by rfl) ?_
    exact ft_ret mi_k40 (by rfl) (hP x1 trivial)
  refine ko_sw (ls := [(0, .ref 114), (1, .long x1)]) (r := []) (h := ks i a q r) mi_in40 (v := (i 7298)) (i := (.tableswitch 48 0 3 #[32, 37, 42, 46], 32, 0, 0, 0, 0, 0)) (by rfl) rfl (oz605 w1 w4 w7 w10) 52 (by rfl) ?_
  have s11 : (((lg_cmp x1 0).toInt < 0 ↔ x1.toInt < (0 : Int64).toInt)) ∧ ((0 < (lg_cmp x1 0).toInt ↔ (0 : Int64).toInt < x1.toInt)) := kl_cmp
  refine ft_go mi_k40 3 55 [(0, .ref 114), (1, .long x1)] [.int (lg_cmp x1 0)] i a q r (by rfl) ?_
  refine ft_if mi_k40 ((lg_cmp x1 0) == 0) 62 58 [(0, .ref 114), (1, .long x1)] [] (by rfl) (fun c => ?_) (fun c => ?_)
  ·
    have c12 : (lg_cmp x1 0).toInt = (0 : Int32).toInt := kd_eq c; clear c
    refine ft_go mi_k40 1 63 [(0, .ref 114), (1, .long x1)] [.long 0] i a q r (by rfl) ?_
    exact ft_ret mi_k40 (by rfl) (hP 0 trivial)
  ·
    have c13 : (lg_cmp x1 0).toInt ≠ (0 : Int32).toInt := kd_eqF c; clear c
    refine ft_go mi_k40 2 63 [(0, .ref 114), (1, .long x1)] [.long 1] i a q r (by rfl) ?_
    exact ft_ret mi_k40 (by rfl) (hP 1 trivial)
def w115_0 : kW := ([], [], [105, 107, 109, 111, 113, 115], [])
set_option maxRecDepth 100000 in
theorem kc115_0 {i : Nat → Int32} {a : Nat → List Int32} {q : Nat → List Int64} {r : Nat → Nat} (hI : kI i a q) (hr : kr r) (x1 : Int32) (x2 : Int32) (x3 : Int64) : km 7 115 [.ref 0, .int x1, .int x2, .long x3] (ks i a q r) (kVI w115_0 i a q r (fun v i1 a1 q1 r1 => True)) := by
  have hG := kG_self w115_0 hI hr
  refine km_ofI (q := (mi_h115, mi_c115)) rfl (by decide) (Nat.le_of_ble_eq_true rfl) ?_
  intro P hP
  first | refine ft_go mi_k115 3 3 [(0, .ref 0), (1, .int x1), (2, .int x2), (3, .long x3)] [.int x2, .int x1, .ref 0] i a q r (by rfl) ?_ | refine ko_steps mi_in115 3 _ (3, [(0, .ref 0), (1, .int x1), (2, .int x2), (3, .long x3)], [.int x2, .int x1, .ref 0], (0, 0), ks i a q r) (by rfl) ?_
  refine ko_callPI mi_k115.1 (pc := 3) (ls := [(0, .ref 0), (1, .int x1), (2, .int x2), (3, .long x3)]) (st := [.int x2, .int x1, .ref 0]) (h := ks i a q r) (i := (.invokevirtual 312, 3, 128, 0, 9, 0, 311)) (mi_k115.2 _ _ (by rfl)) (ft_invS mi_pq128 (by rfl)) (cy := mi_c128) mi_pq128 rfl (kc128_0 hG.I hG.R x1 x2) (by decide) ?_
  intro vg1 hg1
  have z2 : (vg1.toInt < 0) ∨ ((vg1.toInt = 0) ∧ ((0 : Int) ≤ x1.toInt) ∧ (x1.toInt ≤ 5) ∧ ((0 : Int) ≤ x2.toInt) ∧ (x2.toInt ≤ 59)) := hg1
  first | refine ft_go mi_k115 2 10 [(5, .int vg1), (0, .ref 0), (1, .int x1), (2, .int x2), (3, .long x3)] [.int vg1] i a q r (by rfl) ?_ | refine ko_steps mi_in115 2 _ (10, [(5, .int vg1), (0, .ref 0), (1, .int x1), (2, .int x2), (3, .long x3)], [.int vg1], (0, 0), ks i a q r) (by rfl) ?_
  refine ft_if mi_k115 (decide (0 ≤ vg1)) 16 13 [(5, .int vg1), (0, .ref 0), (1, .int x1), (2, .int x2), (3, .long x3)] [] (by rfl) (fun c => ?_) (fun c => ?_)
  ·
    have c3 : (0 : Int32).toInt ≤ vg1.toInt := kd_le c; clear c
    first | refine ft_go mi_k115 3 21 [(5, .int vg1), (0, .ref 0), (1, .int x1), (2, .int x2), (3, .long x3)] [.int x1, .ref 97] i a q r (by rfl) ?_ | refine ko_steps mi_in115 3 _ (21, [(5, .int vg1), (0, .ref 0), (1, .int x1), (2, .int x2), (3, .long x3)], [.int x1, .ref 97], (0, 0), ks i a q r) (by rfl) ?_
    by_cases w4 : x1.toInt = 0
    ·
      refine ko_eq (x1 := (21, [(5, .int vg1), (0, .ref 0), (1, .int x1), (2, .int x2), (3, .long x3)], [.int 0, .ref 97], (0, 0), ks i a q r)) (by rw [(kj_eq w4 (by decide) : x1 = 0)]) ?_
      first | refine ft_go mi_k115 6 31 [(5, .int vg1), (0, .ref 0), (1, .int x1), (2, .int x2), (3, .long x3)] [.int x1, .ref 97, .int x2, .ref 105] i a q r (by rfl) ?_ | refine ko_steps mi_in115 6 _ (31, [(5, .int vg1), (0, .ref 0), (1, .int x1), (2, .int x2), (3, .long x3)], [.int x1, .ref 97, .int x2, .ref 105], (0, 0), ks i a q r) (by rfl) ?_
      by_cases w5 : x1.toInt = 0
      ·
        refine ko_eq (x1 := (31, [(5, .int vg1), (0, .ref 0), (1, .int x1), (2, .int x2), (3, .long x3)], [.int 0, .ref 97, .int x2, .ref 105], (0, 0), ks i a q r)) (by rw [(kj_eq w5 (by decide) : x1 = 0)]) ?_
        first | refine ft_go mi_k115 2 33 [(5, .int vg1), (0, .ref 0), (1, .int x1), (2, .int x2), (3, .long x3)] [.long x3, .ref 104, .int x2, .ref 105] i a q r (by rfl) ?_ | refine ko_steps mi_in115 2 _ (33, [(5, .int vg1), (0, .ref 0), (1, .int x1), (2, .int x2), (3, .long x3)], [.long x3, .ref 104, .int x2, .ref 105], (0, 0), ks i a q r) (by rfl) ?_
        refine ko_callPL mi_k115.1 (pc := 33) (ls := [(5, .int vg1), (0, .ref 0), (1, .int x1), (2, .int x2), (3, .long x3)]) (st := [.long x3, .ref 104, .int x2, .ref 105]) (h := ks i a q r) (i := (.invokevirtual 315, 3, 40, 0, 9, 0, 312)) (mi_k115.2 _ _ (by rfl)) (ft_invS mi_pq40 (by rfl)) (cy := mi_c40) mi_pq40 rfl (kc40_104 hG.I hG.R x3) (by decide) ?_
        intro vg6 hg6
        have hJ7 := kG_q hG 105 rfl (z := (q 105).set x2.toNatClampNeg vg6) (List.length_set.trans (hG.I.2.2.2 105))
        refine ko_last2 mi_k115.1 (l := q 105) (n := 60) (c := 60) (ax := (0, 0, 0, 0, 0)) (mi_k115.2 _ _ (by rfl)) (by rfl) (by rfl) (hG.I.2.2.2 105) rfl (oz1261 c3 z2 kn0) (oz1262 c3 z2 kn0) (h2 := ks i a (ku q 105 ((q 105).set x2.toNatClampNeg vg6)) r) (by rfl) ?_
        first | refine ft_go mi_k115 1 38 [(5, .int vg1), (0, .ref 0), (1, .int x1), (2, .int x2), (3, .long x3)] [.int 1] i a (ku q 105 ((q 105).set x2.toNatClampNeg vg6)) r (by rfl) ?_ | refine ko_steps mi_in115 1 _ (38, [(5, .int vg1), (0, .ref 0), (1, .int x1), (2, .int x2), (3, .long x3)], [.int 1], (0, 0), ks i a (ku q 105 ((q 105).set x2.toNatClampNeg vg6)) r) (by rfl) ?_
        exact ft_ret mi_k115 (by rfl) (hP 1 _ _ _ _ hJ7 trivial)
      exact (oz1263 w4 w5).elim
    by_cases w13 : x1.toInt = 1
    ·
      refine ko_eq (x1 := (21, [(5, .int vg1), (0, .ref 0), (1, .int x1), (2, .int x2), (3, .long x3)], [.int 1, .ref 97], (0, 0), ks i a q r)) (by rw [(kj_eq w13 (by decide) : x1 = 1)]) ?_
      first | refine ft_go mi_k115 6 31 [(5, .int vg1), (0, .ref 0), (1, .int x1), (2, .int x2), (3, .long x3)] [.int x1, .ref 97, .int x2, .ref 107] i a q r (by rfl) ?_ | refine ko_steps mi_in115 6 _ (31, [(5, .int vg1), (0, .ref 0), (1, .int x1), (2, .int x2), (3, .long x3)], [.int x1, .ref 97, .int x2, .ref 107], (0, 0), ks i a q r) (by rfl) ?_
      by_cases w15 : x1.toInt = 1
      ·
        refine ko_eq (x1 := (31, [(5, .int vg1), (0, .ref 0), (1, .int x1), (2, .int x2), (3, .long x3)], [.int 1, .ref 97, .int x2, .ref 107], (0, 0), ks i a q r)) (by rw [(kj_eq w15 (by decide) : x1 = 1)]) ?_
        first | refine ft_go mi_k115 2 33 [(5, .int vg1), (0, .ref 0), (1, .int x1), (2, .int x2), (3, .long x3)] [.long x3, .ref 106, .int x2, .ref 107] i a q r (by rfl) ?_ | refine ko_steps mi_in115 2 _ (33, [(5, .int vg1), (0, .ref 0), (1, .int x1), (2, .int x2), (3, .long x3)], [.long x3, .ref 106, .int x2, .ref 107], (0, 0), ks i a q r) (by rfl) ?_
        refine ko_callPL mi_k115.1 (pc := 33) (ls := [(5, .int vg1), (0, .ref 0), (1, .int x1), (2, .int x2), (3, .long x3)]) (st := [.long x3, .ref 106, .int x2, .ref 107]) (h := ks i a q r) (i := (.invokevirtual 315, 3, 40, 0, 9, 0, 312)) (mi_k115.2 _ _ (by rfl)) (ft_invS mi_pq40 (by rfl)) (cy := mi_c40) mi_pq40 rfl (kc40_106 hG.I hG.R x3) (by decide) ?_
        intro vg16 hg16
        have hJ17 := kG_q hG 107 rfl (z := (q 107).set x2.toNatClampNeg vg16) (List.length_set.trans (hG.I.2.2.2 107))
        refine ko_last2 mi_k115.1 (l := q 107) (n := 60) (c := 60) (ax := (0, 0, 0, 0, 0)) (mi_k115.2 _ _ (by rfl)) (by rfl) (by rfl) (hG.I.2.2.2 107) rfl (oz1261 c3 z2 kn0) (oz1262 c3 z2 kn0) (h2 := ks i a (ku q 107 ((q 107).set x2.toNatClampNeg vg16)) r) (by rfl) ?_
        first | refine ft_go mi_k115 1 38 [(5, .int vg1), (0, .ref 0), (1, .int x1), (2, .int x2), (3, .long x3)] [.int 1] i a (ku q 107 ((q 107).set x2.toNatClampNeg vg16)) r (by rfl) ?_ | refine ko_steps mi_in115 1 _ (38, [(5, .int vg1), (0, .ref 0), (1, .int x1), (2, .int x2), (3, .long x3)], [.int 1], (0, 0), ks i a (ku q 107 ((q 107).set x2.toNatClampNeg vg16)) r) (by rfl) ?_
        exact ft_ret mi_k115 (by rfl) (hP 1 _ _ _ _ hJ17 trivial)
      exact (oz995 w13 w15).elim
    by_cases w22 : x1.toInt = 2
    ·
      refine ko_eq (x1 := (21, [(5, .int vg1), (0, .ref 0), (1, .int x1), (2, .int x2), (3, .long x3)], [.int 2, .ref 97], (0, 0), ks i a q r)) (by rw [(kj_eq w22 (by decide) : x1 = 2)]) ?_
      first | refine ft_go mi_k115 6 31 [(5, .int vg1), (0, .ref 0), (1, .int x1), (2, .int x2), (3, .long x3)] [.int x1, .ref 97, .int x2, .ref 109] i a q r (by rfl) ?_ | refine ko_steps mi_in115 6 _ (31, [(5, .int vg1), (0, .ref 0), (1, .int x1), (2, .int x2), (3, .long x3)], [.int x1, .ref 97, .int x2, .ref 109], (0, 0), ks i a q r) (by rfl) ?_
      by_cases w25 : x1.toInt = 2
      ·
        refine ko_eq (x1 := (31, [(5, .int vg1), (0, .ref 0), (1, .int x1), (2, .int x2), (3, .long x3)], [.int 2, .ref 97, .int x2, .ref 109], (0, 0), ks i a q r)) (by rw [(kj_eq w25 (by decide) : x1 = 2)]) ?_
        first | refine ft_go mi_k115 2 33 [(5, .int vg1), (0, .ref 0), (1, .int x1), (2, .int x2), (3, .long x3)] [.long x3, .ref 108, .int x2, .ref 109] i a q r (by rfl) ?_ | refine ko_steps mi_in115 2 _ (33, [(5, .int vg1), (0, .ref 0), (1, .int x1), (2, .int x2), (3, .long x3)], [.long x3, .ref 108, .int x2, .ref 109], (0, 0), ks i a q r) (by rfl) ?_
        refine ko_callPL mi_k115.1 (pc := 33) (ls := [(5, .int vg1), (0, .ref 0), (1, .int x1), (2, .int x2), (3, .long x3)]) (st := [.long x3, .ref 108, .int x2, .ref 109]) (h := ks i a q r) (i := (.invokevirtual 315, 3, 40, 0, 9, 0, 312)) (mi_k115.2 _ _ (by rfl)) (ft_invS mi_pq40 (by rfl)) (cy := mi_c40) mi_pq40 rfl (kc40_108 hG.I hG.R x3) (by decide) ?_
        intro vg26 hg26
        have hJ27 := kG_q hG 109 rfl (z := (q 109).set x2.toNatClampNeg vg26) (List.length_set.trans (hG.I.2.2.2 109))
        refine ko_last2 mi_k115.1 (l := q 109) (n := 60) (c := 60) (ax := (0, 0, 0, 0, 0)) (mi_k115.2 _ _ (by rfl)) (by rfl) (by rfl) (hG.I.2.2.2 109) rfl (oz1261 c3 z2 kn0) (oz1262 c3 z2 kn0) (h2 := ks i a (ku q 109 ((q 109).set x2.toNatClampNeg vg26)) r) (by rfl) ?_
        first | refine ft_go mi_k115 1 38 [(5, .int vg1), (0, .ref 0), (1, .int x1), (2, .int x2), (3, .long x3)] [.int 1] i a (ku q 109 ((q 109).set x2.toNatClampNeg vg26)) r (by rfl) ?_ | refine ko_steps mi_in115 1 _ (38, [(5, .int vg1), (0, .ref 0), (1, .int x1), (2, .int x2), (3, .long x3)], [.int 1], (0, 0), ks i a (ku q 109 ((q 109).set x2.toNatClampNeg vg26)) r) (by rfl) ?_
        exact ft_ret mi_k115 (by rfl) (hP 1 _ _ _ _ hJ27 trivial)
      exact (oz998 w22 w25).elim
    by_cases w31 : x1.toInt = 3
    ·
      refine ko_eq (x1 := (21, [(5, .int vg1), (0, .ref 0), (1, .int x1), (2, .int x2), (3, .long x3)], [.int 3, .ref 97], (0, 0), ks i a q r)) (by rw [(kj_eq w31 (by decide) : x1 = 3)]) ?_
      first | refine ft_go mi_k115 6 31 [(5, .int vg1), (0, .ref 0), (1, .int x1), (2, .int x2), (3, .long x3)] [.int x1, .ref 97, .int x2, .ref 111] i a q r (by rfl) ?_ | refine ko_steps mi_in115 6 _ (31, [(5, .int vg1), (0, .ref 0), (1, .int x1), (2, .int x2), (3, .long x3)], [.int x1, .ref 97, .int x2, .ref 111], (0, 0), ks i a q r) (by rfl) ?_
      by_cases w35 : x1.toInt = 3
      ·
        refine ko_eq (x1 := (31, [(5, .int vg1), (0, .ref 0), (1, .int x1), (2, .int x2), (3, .long x3)], [.int 3, .ref 97, .int x2, .ref 111], (0, 0), ks i a q r)) (by rw [(kj_eq w35 (by decide) : x1 = 3)]) ?_
        first | refine ft_go mi_k115 2 33 [(5, .int vg1), (0, .ref 0), (1, .int x1), (2, .int x2), (3, .long x3)] [.long x3, .ref 110, .int x2, .ref 111] i a q r (by rfl) ?_ | refine ko_steps mi_in115 2 _ (33, [(5, .int vg1), (0, .ref 0), (1, .int x1), (2, .int x2), (3, .long x3)], [.long x3, .ref 110, .int x2, .ref 111], (0, 0), ks i a q r) (by rfl) ?_
        refine ko_callPL mi_k115.1 (pc := 33) (ls := [(5, .int vg1), (0, .ref 0), (1, .int x1), (2, .int x2), (3, .long x3)]) (st := [.long x3, .ref 110, .int x2, .ref 111]) (h := ks i a q r) (i := (.invokevirtual 315, 3, 40, 0, 9, 0, 312)) (mi_k115.2 _ _ (by rfl)) (ft_invS mi_pq40 (by rfl)) (cy := mi_c40) mi_pq40 rfl (kc40_110 hG.I hG.R x3) (by decide) ?_
        intro vg36 hg36
        have hJ37 := kG_q hG 111 rfl (z := (q 111).set x2.toNatClampNeg vg36) (List.length_set.trans (hG.I.2.2.2 111))
        refine ko_last2 mi_k115.1 (l := q 111) (n := 60) (c := 60) (ax := (0, 0, 0, 0, 0)) (mi_k115.2 _ _ (by rfl)) (by rfl) (by rfl) (hG.I.2.2.2 111) rfl (oz1261 c3 z2 kn0) (oz1262 c3 z2 kn0) (h2 := ks i a (ku q 111 ((q 111).set x2.toNatClampNeg vg36)) r) (by rfl) ?_
        first | refine ft_go mi_k115 1 38 [(5, .int vg1), (0, .ref 0), (1, .int x1), (2, .int x2), (3, .long x3)] [.int 1] i a (ku q 111 ((q 111).set x2.toNatClampNeg vg36)) r (by rfl) ?_ | refine ko_steps mi_in115 1 _ (38, [(5, .int vg1), (0, .ref 0), (1, .int x1), (2, .int x2), (3, .long x3)], [.int 1], (0, 0), ks i a (ku q 111 ((q 111).set x2.toNatClampNeg vg36)) r) (by rfl) ?_
        exact ft_ret mi_k115 (by rfl) (hP 1 _ _ _ _ hJ37 trivial)
      exact (oz1001 w31 w35).elim
    by_cases w40 : x1.toInt = 4
    ·
      refine ko_eq (x1 := (21, [(5, .int vg1), (0, .ref 0), (1, .int x1), (2, .int x2), (3, .long x3)], [.int 4, .ref 97], (0, 0), ks i a q r)) (by rw [(kj_eq w40 (by decide) : x1 = 4)]) ?_
      first | refine ft_go mi_k115 6 31 [(5, .int vg1), (0, .ref 0), (1, .int x1), (2, .int x2), (3, .long x3)] [.int x1, .ref 97, .int x2, .ref 113] i a q r (by rfl) ?_ | refine ko_steps mi_in115 6 _ (31, [(5, .int vg1), (0, .ref 0), (1, .int x1), (2, .int x2), (3, .long x3)], [.int x1, .ref 97, .int x2, .ref 113], (0, 0), ks i a q r) (by rfl) ?_
      by_cases w45 : x1.toInt = 4
      ·
        refine ko_eq (x1 := (31, [(5, .int vg1), (0, .ref 0), (1, .int x1), (2, .int x2), (3, .long x3)], [.int 4, .ref 97, .int x2, .ref 113], (0, 0), ks i a q r)) (by rw [(kj_eq w45 (by decide) : x1 = 4)]) ?_
        first | refine ft_go mi_k115 2 33 [(5, .int vg1), (0, .ref 0), (1, .int x1), (2, .int x2), (3, .long x3)] [.long x3, .ref 112, .int x2, .ref 113] i a q r (by rfl) ?_ | refine ko_steps mi_in115 2 _ (33, [(5, .int vg1), (0, .ref 0), (1, .int x1), (2, .int x2), (3, .long x3)], [.long x3, .ref 112, .int x2, .ref 113], (0, 0), ks i a q r) (by rfl) ?_
        refine ko_callPL mi_k115.1 (pc := 33) (ls := [(5, .int vg1), (0, .ref 0), (1, .int x1), (2, .int x2), (3, .long x3)]) (st := [.long x3, .ref 112, .int x2, .ref 113]) (h := ks i a q r) (i := (.invokevirtual 315, 3, 40, 0, 9, 0, 312)) (mi_k115.2 _ _ (by rfl)) (ft_invS mi_pq40 (by rfl)) (cy := mi_c40) mi_pq40 rfl (kc40_112 hG.I hG.R x3) (by decide) ?_
        intro vg46 hg46
        have hJ47 := kG_q hG 113 rfl (z := (q 113).set x2.toNatClampNeg vg46) (List.length_set.trans (hG.I.2.2.2 113))
        refine ko_last2 mi_k115.1 (l := q 113) (n := 60) (c := 60) (ax := (0, 0, 0, 0, 0)) (mi_k115.2 _ _ (by rfl)) (by rfl) (by rfl) (hG.I.2.2.2 113) rfl (oz1261 c3 z2 kn0) (oz1262 c3 z2 kn0) (h2 := ks i a (ku q 113 ((q 113).set x2.toNatClampNeg vg46)) r) (by rfl) ?_
        first | refine ft_go mi_k115 1 38 [(5, .int vg1), (0, .ref 0), (1, .int x1), (2, .int x2), (3, .long x3)] [.int 1] i a (ku q 113 ((q 113).set x2.toNatClampNeg vg46)) r (by rfl) ?_ | refine ko_steps mi_in115 1 _ (38, [(5, .int vg1), (0, .ref 0), (1, .int x1), (2, .int x2), (3, .long x3)], [.int 1], (0, 0), ks i a (ku q 113 ((q 113).set x2.toNatClampNeg vg46)) r) (by rfl) ?_
        exact ft_ret mi_k115 (by rfl) (hP 1 _ _ _ _ hJ47 trivial)
      exact (oz1004 w40 w45).elim
    by_cases w49 : x1.toInt = 5
    ·
      refine ko_eq (x1 := (21, [(5, .int vg1), (0, .ref 0), (1, .int x1), (2, .int x2), (3, .long x3)], [.int 5, .ref 97], (0, 0), ks i a q r)) (by rw [(kj_eq w49 (by decide) : x1 = 5)]) ?_
      first | refine ft_go mi_k115 6 31 [(5, .int vg1), (0, .ref 0), (1, .int x1), (2, .int x2), (3, .long x3)] [.int x1, .ref 97, .int x2, .ref 115] i a q r (by rfl) ?_ | refine ko_steps mi_in115 6 _ (31, [(5, .int vg1), (0, .ref 0), (1, .int x1), (2, .int x2), (3, .long x3)], [.int x1, .ref 97, .int x2, .ref 115], (0, 0), ks i a q r) (by rfl) ?_
      by_cases w55 : x1.toInt = 5
      ·
        refine ko_eq (x1 := (31, [(5, .int vg1), (0, .ref 0), (1, .int x1), (2, .int x2), (3, .long x3)], [.int 5, .ref 97, .int x2, .ref 115], (0, 0), ks i a q r)) (by rw [(kj_eq w55 (by decide) : x1 = 5)]) ?_
        first | refine ft_go mi_k115 2 33 [(5, .int vg1), (0, .ref 0), (1, .int x1), (2, .int x2), (3, .long x3)] [.long x3, .ref 114, .int x2, .ref 115] i a q r (by rfl) ?_ | refine ko_steps mi_in115 2 _ (33, [(5, .int vg1), (0, .ref 0), (1, .int x1), (2, .int x2), (3, .long x3)], [.long x3, .ref 114, .int x2, .ref 115], (0, 0), ks i a q r) (by rfl) ?_
        refine ko_callPL mi_k115.1 (pc := 33) (ls := [(5, .int vg1), (0, .ref 0), (1, .int x1), (2, .int x2), (3, .long x3)]) (st := [.long x3, .ref 114, .int x2, .ref 115]) (h := ks i a q r) (i := (.invokevirtual 315, 3, 40, 0, 9, 0, 312)) (mi_k115.2 _ _ (by rfl)) (ft_invS mi_pq40 (by rfl)) (cy := mi_c40) mi_pq40 rfl (kc40_114 hG.I hG.R x3) (by decide) ?_
        intro vg56 hg56
        have hJ57 := kG_q hG 115 rfl (z := (q 115).set x2.toNatClampNeg vg56) (List.length_set.trans (hG.I.2.2.2 115))
        refine ko_last2 mi_k115.1 (l := q 115) (n := 60) (c := 60) (ax := (0, 0, 0, 0, 0)) (mi_k115.2 _ _ (by rfl)) (by rfl) (by rfl) (hG.I.2.2.2 115) rfl (oz1261 c3 z2 kn0) (oz1262 c3 z2 kn0) (h2 := ks i a (ku q 115 ((q 115).set x2.toNatClampNeg vg56)) r) (by rfl) ?_
        first | refine ft_go mi_k115 1 38 [(5, .int vg1), (0, .ref 0), (1, .int x1), (2, .int x2), (3, .long x3)] [.int 1] i a (ku q 115 ((q 115).set x2.toNatClampNeg vg56)) r (by rfl) ?_ | refine ko_steps mi_in115 1 _ (38, [(5, .int vg1), (0, .ref 0), (1, .int x1), (2, .int x2), (3, .long x3)], [.int 1], (0, 0), ks i a (ku q 115 ((q 115).set x2.toNatClampNeg vg56)) r) (by rfl) ?_
        exact ft_ret mi_k115 (by rfl) (hP 1 _ _ _ _ hJ57 trivial)
      exact (oz1143 w49 w55).elim
    exact (oz1269 c3 w13 w22 w31 w4 w40 w49 z2 kn0).elim
  ·
    have c58 : vg1.toInt < (0 : Int32).toInt := kd_leF c; clear c
    first | refine ft_go mi_k115 1 15 [(5, .int vg1), (0, .ref 0), (1, .int x1), (2, .int x2), (3, .long x3)] [.int vg1] i a q r (by rfl) ?_ | refine ko_steps mi_in115 1 _ (15, [(5, .int vg1), (0, .ref 0), (1, .int x1), (2, .int x2), (3, .long x3)], [.int vg1], (0, 0), ks i a q r) (by rfl) ?_
    exact ft_ret mi_k115 (by rfl) (hP vg1 _ _ _ _ hG trivial)
set_option maxRecDepth 100000 in
theorem kc116_0 {i : Nat → Int32} {a : Nat → List Int32} {q : Nat → List Int64} {r : Nat → Nat} (hI : kI i a q) (hr : kr r) (x1 : Int32) (x2 : Int32) : km 7 116 [.ref 0, .int x1, .int x2] (ks i a q r) (kPL (ks i a q r) (fun v => True)) := by
  have hG := kG_self kW0 hI hr
  refine km_ofPL (q := (mi_h116, mi_c116)) rfl (by decide) (Nat.le_of_ble_eq_true rfl) ?_
  intro P hP
  first | refine ft_go mi_k116 3 3 [(0, .ref 0), (1, .int x1), (2, .int x2)] [.int x2, .int x1, .ref 0] i a q r (by rfl) ?_ | refine ko_steps mi_in116 3 _ (3, [(0, .ref 0), (1, .int x1), (2, .int x2)], [.int x2, .int x1, .ref 0], (0, 0), ks i a q r) (by rfl) ?_
  refine ko_callPI mi_k116.1 (pc := 3) (ls := [(0, .ref 0), (1, .int x1), (2, .int x2)]) (st := [.int x2, .int x1, .ref 0]) (h := ks i a q r) (i := (.invokevirtual 312, 3, 128, 0, 9, 0, 311)) (mi_k116.2 _ _ (by rfl)) (ft_invS mi_pq128 (by rfl)) (cy := mi_c128) mi_pq128 rfl (kc128_0 hG.I hG.R x1 x2) (by decide) ?_
  intro vg1 hg1
  have z2 : (vg1.toInt < 0) ∨ ((vg1.toInt = 0) ∧ ((0 : Int) ≤ x1.toInt) ∧ (x1.toInt ≤ 5) ∧ ((0 : Int) ≤ x2.toInt) ∧ (x2.toInt ≤ 59)) := hg1
  refine ft_if mi_k116 (decide (0 ≤ vg1)) 15 9 [(0, .ref 0), (1, .int x1), (2, .int x2)] [] (by rfl) (fun c => ?_) (fun c => ?_)
  ·
    have c3 : (0 : Int32).toInt ≤ vg1.toInt := kd_le c; clear c
    first | refine ft_go mi_k116 3 20 [(0, .ref 0), (1, .int x1), (2, .int x2)] [.int x1, .ref 97] i a q r (by rfl) ?_ | refine ko_steps mi_in116 3 _ (20, [(0, .ref 0), (1, .int x1), (2, .int x2)], [.int x1, .ref 97], (0, 0), ks i a q r) (by rfl) ?_
    by_cases w4 : x1.toInt = 0
    ·
      refine ko_eq (x1 := (20, [(0, .ref 0), (1, .int x1), (2, .int x2)], [.int 0, .ref 97], (0, 0), ks i a q r)) (by rw [(kj_eq w4 (by decide) : x1 = 0)]) ?_
      first | refine ft_go mi_k116 3 25 [(0, .ref 0), (1, .int x1), (2, .int x2)] [.int x2, .ref 105] i a q r (by rfl) ?_ | refine ko_steps mi_in116 3 _ (25, [(0, .ref 0), (1, .int x1), (2, .int x2)], [.int x2, .ref 105], (0, 0), ks i a q r) (by rfl) ?_
      refine ko_lald2 mi_k116.1 (l := q 105) (n := 60) (c := 60) (ax := (0, 0, 0, 0, 0)) (mi_k116.2 _ _ (by rfl)) (by rfl) (by rfl) (hG.I.2.2.2 105) rfl (oz1261 c3 z2 kn0) (oz1262 c3 z2 kn0) ?_
      exact ft_ret mi_k116 (by rfl) (hP ((q 105).getD x2.toNatClampNeg 0) trivial)
    by_cases w5 : x1.toInt = 1
    ·
      refine ko_eq (x1 := (20, [(0, .ref 0), (1, .int x1), (2, .int x2)], [.int 1, .ref 97], (0, 0), ks i a q r)) (by rw [(kj_eq w5 (by decide) : x1 = 1)]) ?_
      first | refine ft_go mi_k116 3 25 [(0, .ref 0), (1, .int x1), (2, .int x2)] [.int x2, .ref 107] i a q r (by rfl) ?_ | refine ko_steps mi_in116 3 _ (25, [(0, .ref 0), (1, .int x1), (2, .int x2)], [.int x2, .ref 107], (0, 0), ks i a q r) (by rfl) ?_
      refine ko_lald2 mi_k116.1 (l := q 107) (n := 60) (c := 60) (ax := (0, 0, 0, 0, 0)) (mi_k116.2 _ _ (by rfl)) (by rfl) (by rfl) (hG.I.2.2.2 107) rfl (oz1261 c3 z2 kn0) (oz1262 c3 z2 kn0) ?_
      exact ft_ret mi_k116 (by rfl) (hP ((q 107).getD x2.toNatClampNeg 0) trivial)
    by_cases w6 : x1.toInt = 2
    ·
      refine ko_eq (x1 := (20, [(0, .ref 0), (1, .int x1), (2, .int x2)], [.int 2, .ref 97], (0, 0), ks i a q r)) (by rw [(kj_eq w6 (by decide) : x1 = 2)]) ?_
      first | refine ft_go mi_k116 3 25 [(0, .ref 0), (1, .int x1), (2, .int x2)] [.int x2, .ref 109] i a q r (by rfl) ?_ | refine ko_steps mi_in116 3 _ (25, [(0, .ref 0), (1, .int x1), (2, .int x2)], [.int x2, .ref 109], (0, 0), ks i a q r) (by rfl) ?_
      refine ko_lald2 mi_k116.1 (l := q 109) (n := 60) (c := 60) (ax := (0, 0, 0, 0, 0)) (mi_k116.2 _ _ (by rfl)) (by rfl) (by rfl) (hG.I.2.2.2 109) rfl (oz1261 c3 z2 kn0) (oz1262 c3 z2 kn0) ?_
      exact ft_ret mi_k116 (by rfl) (hP ((q 109).getD x2.toNatClampNeg 0) trivial)
    by_cases w7 : x1.toInt = 3
    ·
      refine ko_eq (x1 := (20, [(0, .ref 0), (1, .int x1), (2, .int x2)], [.int 3, .ref 97], (0, 0), ks i a q r)) (by rw [(kj_eq w7 (by decide) : x1 = 3)]) ?_
      first | refine ft_go mi_k116 3 25 [(0, .ref 0), (1, .int x1), (2, .int x2)] [.int x2, .ref 111] i a q r (by rfl) ?_ | refine ko_steps mi_in116 3 _ (25, [(0, .ref 0), (1, .int x1), (2, .int x2)], [.int x2, .ref 111], (0, 0), ks i a q r) (by rfl) ?_
      refine ko_lald2 mi_k116.1 (l := q 111) (n := 60) (c := 60) (ax := (0, 0, 0, 0, 0)) (mi_k116.2 _ _ (by rfl)) (by rfl) (by rfl) (hG.I.2.2.2 111) rfl (oz1261 c3 z2 kn0) (oz1262 c3 z2 kn0) ?_
      exact ft_ret mi_k116 (by rfl) (hP ((q 111).getD x2.toNatClampNeg 0) trivial)
    by_cases w8 : x1.toInt = 4
    ·
      refine ko_eq (x1 := (20, [(0, .ref 0), (1, .int x1), (2, .int x2)], [.int 4, .ref 97], (0, 0), ks i a q r)) (by rw [(kj_eq w8 (by decide) : x1 = 4)]) ?_
      first | refine ft_go mi_k116 3 25 [(0, .ref 0), (1, .int x1), (2, .int x2)] [.int x2, .ref 113] i a q r (by rfl) ?_ | refine ko_steps mi_in116 3 _ (25, [(0, .ref 0), (1, .int x1), (2, .int x2)], [.int x2, .ref 113], (0, 0), ks i a q r) (by rfl) ?_
      refine ko_lald2 mi_k116.1 (l := q 113) (n := 60) (c := 60) (ax := (0, 0, 0, 0, 0)) (mi_k116.2 _ _ (by rfl)) (by rfl) (by rfl) (hG.I.2.2.2 113) rfl (oz1261 c3 z2 kn0) (oz1262 c3 z2 kn0) ?_
      exact ft_ret mi_k116 (by rfl) (hP ((q 113).getD x2.toNatClampNeg 0) trivial)
    by_cases w9 : x1.toInt = 5
    ·
      refine ko_eq (x1 := (20, [(0, .ref 0), (1, .int x1), (2, .int x2)], [.int 5, .ref 97], (0, 0), ks i a q r)) (by rw [(kj_eq w9 (by decide) : x1 = 5)]) ?_
      first | refine ft_go mi_k116 3 25 [(0, .ref 0), (1, .int x1), (2, .int x2)] [.int x2, .ref 115] i a q r (by rfl) ?_ | refine ko_steps mi_in116 3 _ (25, [(0, .ref 0), (1, .int x1), (2, .int x2)], [.int x2, .ref 115], (0, 0), ks i a q r) (by rfl) ?_
      refine ko_lald2 mi_k116.1 (l := q 115) (n := 60) (c := 60) (ax := (0, 0, 0, 0, 0)) (mi_k116.2 _ _ (by rfl)) (by rfl) (by rfl) (hG.I.2.2.2 115) rfl (oz1261 c3 z2 kn0) (oz1262 c3 z2 kn0) ?_
      exact ft_ret mi_k116 (by rfl) (hP ((q 115).getD x2.toNatClampNeg 0) trivial)
    exact (oz1270 c3 w4 w5 w6 w7 w8 w9 z2 kn0).elim
  ·
    have c10 : vg1.toInt < (0 : Int32).toInt := kd_leF c; clear c
    first | refine ft_go mi_k116 2 26 [(0, .ref 0), (1, .int x1), (2, .int x2)] [.long (-9223372036854775808)] i a q r (by rfl) ?_ | refine ko_steps mi_in116 2 _ (26, [(0, .ref 0), (1, .int x1), (2, .int x2)], [.long (-9223372036854775808)], (0, 0), ks i a q r) (by rfl) ?_
    exact ft_ret mi_k116 (by rfl) (hP (-9223372036854775808) trivial)
set_option maxRecDepth 100000 in
theorem kc37_104 {i : Nat → Int32} {a : Nat → List Int32} {q : Nat → List Int64} {r : Nat → Nat} (hI : kI i a q) (hr : kr r) (x1 : Int32) (x2 : Int32) : km 1 37 [.ref 104, .int x1, .int x2] (ks i a q r) (kPI (ks i a q r) (fun v => (v = 1 ∧ (((0 : Int) ≤ x2.toInt) ∧ (x2.toInt ≤ (i 6659).toInt) ∧ ((0 : Int) ≤ x1.toInt) ∧ ((x1.toInt + x2.toInt) ≤ (i 6659).toInt))) ∨ (v = 0 ∧ (¬ (((0 : Int) ≤ x2.toInt) ∧ (x2.toInt ≤ (i 6659).toInt) ∧ ((0 : Int) ≤ x1.toInt) ∧ ((x1.toInt + x2.toInt) ≤ (i 6659).toInt)))))) := by
  have hG := kG_self kW0 hI hr
  refine km_ofPI (q := (mi_h37, mi_c37)) rfl (by decide) (Nat.le_of_ble_eq_true rfl) ?_
  intro P hP
  refine ft_go mi_k37 1 1 [(0, .ref 104), (1, .int x1), (2, .int x2)] [.int x2] i a q r (by rfl) ?_
  refine ft_if mi_k37 (decide (x2 < 0)) 30 4 [(0, .ref 104), (1, .int x1), (2, .int x2)] [] (by rfl) (fun c => ?_) (fun c => ?_)
  ·
    have c1 : x2.toInt < (0 : Int32).toInt := kd_lt c; clear c
    refine ft_go mi_k37 1 31 [(0, .ref 104), (1, .int x1), (2, .int x2)] [.int 0] i a q r (by rfl) ?_
    have fi_6659 : ((0 : Int) ≤ (i 6659).toInt) ∧ ((i 6659).toInt ≤ 60) := hG.I.1 6659
    exact ft_ret mi_k37 (by rfl) (hP 0 (Or.inr ⟨rfl, (oz1272 c1 kn0)⟩))
  ·
    have c2 : (0 : Int32).toInt ≤ x2.toInt := kd_ltF c; clear c
    have fi_6659 : ((0 : Int) ≤ (i 6659).toInt) ∧ ((i 6659).toInt ≤ 60) := hG.I.1 6659
    refine ft_go mi_k37 3 9 [(0, .ref 104), (1, .int x1), (2, .int x2)] [.int (i 6659), .int x2] i a q r (by rfl) ?_
    refine ft_if mi_k37 (decide ((i 6659) < x2)) 30 12 [(0, .ref 104), (1, .int x1), (2, .int x2)] [] (by rfl) (fun c => ?_) (fun c => ?_)
    ·
      have c3 : (i 6659).toInt < x2.toInt := kd_lt c; clear c
      refine ft_go mi_k37 1 31 [(0, .ref 104), (1, .int x1), (2, .int x2)] [.int 0] i a q r (by rfl) ?_
      exact ft_ret mi_k37 (by rfl) (hP 0 (Or.inr ⟨rfl, (oz1273 c3)⟩))
    ·
      have c4 : x2.toInt ≤ (i 6659).toInt := kd_ltF c; clear c
      refine ft_go mi_k37 1 13 [(0, .ref 104), (1, .int x1), (2, .int x2)] [.int x1] i a q r (by rfl) ?_
      refine ft_if mi_k37 (decide (x1 < 0)) 30 16 [(0, .ref 104), (1, .int x1), (2, .int x2)] [] (by rfl) (fun c => ?_) (fun c => ?_)
      ·
        have c5 : x1.toInt < (0 : Int32).toInt := kd_lt c; clear c
        refine ft_go mi_k37 1 31 [(0, .ref 104), (1, .int x1), (2, .int x2)] [.int 0] i a q r (by rfl) ?_
        exact ft_ret mi_k37 (by rfl) (hP 0 (Or.inr ⟨rfl, (oz1274 c5 kn0)⟩))
      ·
        have c6 : (0 : Int32).toInt ≤ x1.toInt := kd_ltF c; clear c
        have s7 : ((i 6659) - x2).toInt = (i 6659).toInt - x2.toInt := kd_sub (oz551 c4) (oz1275 c2 fi_6659.2 kn0)
        refine ft_go mi_k37 5 23 [(0, .ref 104), (1, .int x1), (2, .int x2)] [.int ((i 6659) - x2), .int x1] i a q r (by rfl) ?_
        refine ft_if mi_k37 (decide (((i 6659) - x2) < x1)) 30 26 [(0, .ref 104), (1, .int x1), (2, .int x2)] [] (by rfl) (fun c => ?_) (fun c => ?_)
        ·
          have c8 : ((i 6659) - x2).toInt < x1.toInt := kd_lt c; clear c
          refine ft_go mi_k37 1 31 [(0, .ref 104), (1, .int x1), (2, .int x2)] [.int 0] i a q r (by rfl) ?_
          exact ft_ret mi_k37 (by rfl) (hP 0 (Or.inr ⟨rfl, (oz1276 c8 s7)⟩))
        ·
          have c9 : x1.toInt ≤ ((i 6659) - x2).toInt := kd_ltF c; clear c
          refine ft_go mi_k37 2 31 [(0, .ref 104), (1, .int x1), (2, .int x2)] [.int 1] i a q r (by rfl) ?_
          exact ft_ret mi_k37 (by rfl) (hP 1 (Or.inl ⟨rfl, (oz1277 c2 c4 c6 c9 s7 kn0)⟩))
set_option maxRecDepth 100000 in
theorem kc37_106 {i : Nat → Int32} {a : Nat → List Int32} {q : Nat → List Int64} {r : Nat → Nat} (hI : kI i a q) (hr : kr r) (x1 : Int32) (x2 : Int32) : km 1 37 [.ref 106, .int x1, .int x2] (ks i a q r) (kPI (ks i a q r) (fun v => (v = 1 ∧ (((0 : Int) ≤ x2.toInt) ∧ (x2.toInt ≤ (i 6787).toInt) ∧ ((0 : Int) ≤ x1.toInt) ∧ ((x1.toInt + x2.toInt) ≤ (i 6787).toInt))) ∨ (v = 0 ∧ (¬ (((0 : Int) ≤ x2.toInt) ∧ (x2.toInt ≤ (i 6787).toInt) ∧ ((0 : Int) ≤ x1.toInt) ∧ ((x1.toInt + x2.toInt) ≤ (i 6787).toInt)))))) := by
  have hG := kG_self kW0 hI hr
  refine km_ofPI (q := (mi_h37, mi_c37)) rfl (by decide) (Nat.le_of_ble_eq_true rfl) ?_
  intro P hP
  refine ft_go mi_k37 1 1 [(0, .ref 106), (1, .int x1), (2, .int x2)] [.int x2] i a q r (by rfl) ?_
  refine ft_if mi_k37 (decide (x2 < 0)) 30 4 [(0, .ref 106), (1, .int x1), (2, .int x2)] [] (by rfl) (fun c => ?_) (fun c => ?_)
  ·
    have c1 : x2.toInt < (0 : Int32).toInt := kd_lt c; clear c
    refine ft_go mi_k37 1 31 [(0, .ref 106), (1, .int x1), (2, .int x2)] [.int 0] i a q r (by rfl) ?_
    have fi_6787 : ((0 : Int) ≤ (i 6787).toInt) ∧ ((i 6787).toInt ≤ 60) := hG.I.1 6787
    exact ft_ret mi_k37 (by rfl) (hP 0 (Or.inr ⟨rfl, (oz1272 c1 kn0)⟩))
  ·
    have c2 : (0 : Int32).toInt ≤ x2.toInt := kd_ltF c; clear c
    have fi_6787 : ((0 : Int) ≤ (i 6787).toInt) ∧ ((i 6787).toInt ≤ 60) := hG.I.1 6787
    refine ft_go mi_k37 3 9 [(0, .ref 106), (1, .int x1), (2, .int x2)] [.int (i 6787), .int x2] i a q r (by rfl) ?_
    refine ft_if mi_k37 (decide ((i 6787) < x2)) 30 12 [(0, .ref 106), (1, .int x1), (2, .int x2)] [] (by rfl) (fun c => ?_) (fun c => ?_)
    ·
      have c3 : (i 6787).toInt < x2.toInt := kd_lt c; clear c
      refine ft_go mi_k37 1 31 [(0, .ref 106), (1, .int x1), (2, .int x2)] [.int 0] i a q r (by rfl) ?_
      exact ft_ret mi_k37 (by rfl) (hP 0 (Or.inr ⟨rfl, (oz1273 c3)⟩))
    ·
      have c4 : x2.toInt ≤ (i 6787).toInt := kd_ltF c; clear c
      refine ft_go mi_k37 1 13 [(0, .ref 106), (1, .int x1), (2, .int x2)] [.int x1] i a q r (by rfl) ?_
      refine ft_if mi_k37 (decide (x1 < 0)) 30 16 [(0, .ref 106), (1, .int x1), (2, .int x2)] [] (by rfl) (fun c => ?_) (fun c => ?_)
      ·
        have c5 : x1.toInt < (0 : Int32).toInt := kd_lt c; clear c
        refine ft_go mi_k37 1 31 [(0, .ref 106), (1, .int x1), (2, .int x2)] [.int 0] i a q r (by rfl) ?_
        exact ft_ret mi_k37 (by rfl) (hP 0 (Or.inr ⟨rfl, (oz1274 c5 kn0)⟩))
      ·
        have c6 : (0 : Int32).toInt ≤ x1.toInt := kd_ltF c; clear c
        have s7 : ((i 6787) - x2).toInt = (i 6787).toInt - x2.toInt := kd_sub (oz551 c4) (oz1275 c2 fi_6787.2 kn0)
        refine ft_go mi_k37 5 23 [(0, .ref 106), (1, .int x1), (2, .int x2)] [.int ((i 6787) - x2), .int x1] i a q r (by rfl) ?_
        refine ft_if mi_k37 (decide (((i 6787) - x2) < x1)) 30 26 [(0, .ref 106), (1, .int x1), (2, .int x2)] [] (by rfl) (fun c => ?_) (fun c => ?_)
        ·
          have c8 : ((i 6787) - x2).toInt < x1.toInt := kd_lt c; clear c
          refine ft_go mi_k37 1 31 [(0, .ref 106), (1, .int x1), (2, .int x2)] [.int 0] i a q r (by rfl) ?_
          exact ft_ret mi_k37 (by rfl) (hP 0 (Or.inr ⟨rfl, (oz1276 c8 s7)⟩))
        ·
          have c9 : x1.toInt ≤ ((i 6787) - x2).toInt := kd_ltF c; clear c
          refine ft_go mi_k37 2 31 [(0, .ref 106), (1, .int x1), (2, .int x2)] [.int 1] i a q r (by rfl) ?_
          exact ft_ret mi_k37 (by rfl) (hP 1 (Or.inl ⟨rfl, (oz1277 c2 c4 c6 c9 s7 kn0)⟩))
set_option maxRecDepth 100000 in
theorem kc37_108 {i : Nat → Int32} {a : Nat → List Int32} {q : Nat → List Int64} {r : Nat → Nat} (hI : kI i a q) (hr : kr r) (x1 : Int32) (x2 : Int32) : km 1 37 [.ref 108, .int x1, .int x2] (ks i a q r) (kPI (ks i a q r) (fun v => (v = 1 ∧ (((0 : Int) ≤ x2.toInt) ∧ (x2.toInt ≤ (i 6915).toInt) ∧ ((0 : Int) ≤ x1.toInt) ∧ ((x1.toInt + x2.toInt) ≤ (i 6915).toInt))) ∨ (v = 0 ∧ (¬ (((0 : Int) ≤ x2.toInt) ∧ (x2.toInt ≤ (i 6915).toInt) ∧ ((0 : Int) ≤ x1.toInt) ∧ ((x1.toInt + x2.toInt) ≤ (i 6915).toInt)))))) := by
  have hG := kG_self kW0 hI hr
  refine km_ofPI (q := (mi_h37, mi_c37)) rfl (by decide) (Nat.le_of_ble_eq_true rfl) ?_
  intro P hP
  refine ft_go mi_k37 1 1 [(0, .ref 108), (1, .int x1), (2, .int x2)] [.int x2] i a q r (by rfl) ?_
  refine ft_if mi_k37 (decide (x2 < 0)) 30 4 [(0, .ref 108), (1, .int x1), (2, .int x2)] [] (by rfl) (fun c => ?_) (fun c => ?_)
  ·
    have c1 : x2.toInt < (0 : Int32).toInt := kd_lt c; clear c
    refine ft_go mi_k37 1 31 [(0, .ref 108), (1, .int x1), (2, .int x2)] [.int 0] i a q r (by rfl) ?_
    have fi_6915 : ((0 : Int) ≤ (i 6915).toInt) ∧ ((i 6915).toInt ≤ 60) := hG.I.1 6915
    exact ft_ret mi_k37 (by rfl) (hP 0 (Or.inr ⟨rfl, (oz1272 c1 kn0)⟩))
  ·
    have c2 : (0 : Int32).toInt ≤ x2.toInt := kd_ltF c; clear c
    have fi_6915 : ((0 : Int) ≤ (i 6915).toInt) ∧ ((i 6915).toInt ≤ 60) := hG.I.1 6915
    refine ft_go mi_k37 3 9 [(0, .ref 108), (1, .int x1), (2, .int x2)] [.int (i 6915), .int x2] i a q r (by rfl) ?_
    refine ft_if mi_k37 (decide ((i 6915) < x2)) 30 12 [(0, .ref 108), (1, .int x1), (2, .int x2)] [] (by rfl) (fun c => ?_) (fun c => ?_)
    ·
      have c3 : (i 6915).toInt < x2.toInt := kd_lt c; clear c
      refine ft_go mi_k37 1 31 [(0, .ref 108), (1, .int x1), (2, .int x2)] [.int 0] i a q r (by rfl) ?_
      exact ft_ret mi_k37 (by rfl) (hP 0 (Or.inr ⟨rfl, (oz1273 c3)⟩))
    ·
      have c4 : x2.toInt ≤ (i 6915).toInt := kd_ltF c; clear c
      refine ft_go mi_k37 1 13 [(0, .ref 108), (1, .int x1), (2, .int x2)] [.int x1] i a q r (by rfl) ?_
      refine ft_if mi_k37 (decide (x1 < 0)) 30 16 [(0, .ref 108), (1, .int x1), (2, .int x2)] [] (by rfl) (fun c => ?_) (fun c => ?_)
      ·
        have c5 : x1.toInt < (0 : Int32).toInt := kd_lt c; clear c
        refine ft_go mi_k37 1 31 [(0, .ref 108), (1, .int x1), (2, .int x2)] [.int 0] i a q r (by rfl) ?_
        exact ft_ret mi_k37 (by rfl) (hP 0 (Or.inr ⟨rfl, (oz1274 c5 kn0)⟩))
      ·
        have c6 : (0 : Int32).toInt ≤ x1.toInt := kd_ltF c; clear c
        have s7 : ((i 6915) - x2).toInt = (i 6915).toInt - x2.toInt := kd_sub (oz551 c4) (oz1275 c2 fi_6915.2 kn0)
        refine ft_go mi_k37 5 23 [(0, .ref 108), (1, .int x1), (2, .int x2)] [.int ((i 6915) - x2), .int x1] i a q r (by rfl) ?_
        refine ft_if mi_k37 (decide (((i 6915) - x2) < x1)) 30 26 [(0, .ref 108), (1, .int x1), (2, .int x2)] [] (by rfl) (fun c => ?_) (fun c => ?_)
        ·
          have c8 : ((i 6915) - x2).toInt < x1.toInt := kd_lt c; clear c
          refine ft_go mi_k37 1 31 [(0, .ref 108), (1, .int x1), (2, .int x2)] [.int 0] i a q r (by rfl) ?_
          exact ft_ret mi_k37 (by rfl) (hP 0 (Or.inr ⟨rfl, (oz1276 c8 s7)⟩))
        ·
          have c9 : x1.toInt ≤ ((i 6915) - x2).toInt := kd_ltF c; clear c
          refine ft_go mi_k37 2 31 [(0, .ref 108), (1, .int x1), (2, .int x2)] [.int 1] i a q r (by rfl) ?_
          exact ft_ret mi_k37 (by rfl) (hP 1 (Or.inl ⟨rfl, (oz1277 c2 c4 c6 c9 s7 kn0)⟩))
set_option maxRecDepth 100000 in
theorem kc37_110 {i : Nat → Int32} {a : Nat → List Int32} {q : Nat → List Int64} {r : Nat → Nat} (hI : kI i a q) (hr : kr r) (x1 : Int32) (x2 : Int32) : km 1 37 [.ref 110, .int x1, .int x2] (ks i a q r) (kPI (ks i a q r) (fun v => (v = 1 ∧ (((0 : Int) ≤ x2.toInt) ∧ (x2.toInt ≤ (i 7043).toInt) ∧ ((0 : Int) ≤ x1.toInt) ∧ ((x1.toInt + x2.toInt) ≤ (i 7043).toInt))) ∨ (v = 0 ∧ (¬ (((0 : Int) ≤ x2.toInt) ∧ (x2.toInt ≤ (i 7043).toInt) ∧ ((0 : Int) ≤ x1.toInt) ∧ ((x1.toInt + x2.toInt) ≤ (i 7043).toInt)))))) := by
  have hG := kG_self kW0 hI hr
  refine km_ofPI (q := (mi_h37, mi_c37)) rfl (by decide) (Nat.le_of_ble_eq_true rfl) ?_
  intro P hP
  refine ft_go mi_k37 1 1 [(0, .ref 110), (1, .int x1), (2, .int x2)] [.int x2] i a q r (by rfl) ?_
  refine ft_if mi_k37 (decide (x2 < 0)) 30 4 [(0, .ref 110), (1, .int x1), (2, .int x2)] [] (by rfl) (fun c => ?_) (fun c => ?_)
  ·
    have c1 : x2.toInt < (0 : Int32).toInt := kd_lt c; clear c
    refine ft_go mi_k37 1 31 [(0, .ref 110), (1, .int x1), (2, .int x2)] [.int 0] i a q r (by rfl) ?_
    have fi_7043 : ((0 : Int) ≤ (i 7043).toInt) ∧ ((i 7043).toInt ≤ 60) := hG.I.1 7043
    exact ft_ret mi_k37 (by rfl) (hP 0 (Or.inr ⟨rfl, (oz1272 c1 kn0)⟩))
  ·
    have c2 : (0 : Int32).toInt ≤ x2.toInt := kd_ltF c; clear c
    have fi_7043 : ((0 : Int) ≤ (i 7043).toInt) ∧ ((i 7043).toInt ≤ 60) := hG.I.1 7043
    refine ft_go mi_k37 3 9 [(0, .ref 110), (1, .int x1), (2, .int x2)] [.int (i 7043), .int x2] i a q r (by rfl) ?_
    refine ft_if mi_k37 (decide ((i 7043) < x2)) 30 12 [(0, .ref 110), (1, .int x1), (2, .int x2)] [] (by rfl) (fun c => ?_) (fun c => ?_)
    ·
      have c3 : (i 7043).toInt < x2.toInt := kd_lt c; clear c
      refine ft_go mi_k37 1 31 [(0, .ref 110), (1, .int x1), (2, .int x2)] [.int 0] i a q r (by rfl) ?_
      exact ft_ret mi_k37 (by rfl) (hP 0 (Or.inr ⟨rfl, (oz1273 c3)⟩))
    ·
      have c4 : x2.toInt ≤ (i 7043).toInt := kd_ltF c; clear c
      refine ft_go mi_k37 1 13 [(0, .ref 110), (1, .int x1), (2, .int x2)] [.int x1] i a q r (by rfl) ?_
      refine ft_if mi_k37 (decide (x1 < 0)) 30 16 [(0, .ref 110), (1, .int x1), (2, .int x2)] [] (by rfl) (fun c => ?_) (fun c => ?_)
      ·
        have c5 : x1.toInt < (0 : Int32).toInt := kd_lt c; clear c
        refine ft_go mi_k37 1 31 [(0, .ref 110), (1, .int x1), (2, .int x2)] [.int 0] i a q r (by rfl) ?_
        exact ft_ret mi_k37 (by rfl) (hP 0 (Or.inr ⟨rfl, (oz1274 c5 kn0)⟩))
      ·
        have c6 : (0 : Int32).toInt ≤ x1.toInt := kd_ltF c; clear c
        have s7 : ((i 7043) - x2).toInt = (i 7043).toInt - x2.toInt := kd_sub (oz551 c4) (oz1275 c2 fi_7043.2 kn0)
        refine ft_go mi_k37 5 23 [(0, .ref 110), (1, .int x1), (2, .int x2)] [.int ((i 7043) - x2), .int x1] i a q r (by rfl) ?_
        refine ft_if mi_k37 (decide (((i 7043) - x2) < x1)) 30 26 [(0, .ref 110), (1, .int x1), (2, .int x2)] [] (by rfl) (fun c => ?_) (fun c => ?_)
        ·
          have c8 : ((i 7043) - x2).toInt < x1.toInt := kd_lt c; clear c
          refine ft_go mi_k37 1 31 [(0, .ref 110), (1, .int x1), (2, .int x2)] [.int 0] i a q r (by rfl) ?_
          exact ft_ret mi_k37 (by rfl) (hP 0 (Or.inr ⟨rfl, (oz1276 c8 s7)⟩))
        ·
          have c9 : x1.toInt ≤ ((i 7043) - x2).toInt := kd_ltF c; clear c
          refine ft_go mi_k37 2 31 [(0, .ref 110), (1, .int x1), (2, .int x2)] [.int 1] i a q r (by rfl) ?_
          exact ft_ret mi_k37 (by rfl) (hP 1 (Or.inl ⟨rfl, (oz1277 c2 c4 c6 c9 s7 kn0)⟩))
set_option maxRecDepth 100000 in
theorem kc37_112 {i : Nat → Int32} {a : Nat → List Int32} {q : Nat → List Int64} {r : Nat → Nat} (hI : kI i a q) (hr : kr r) (x1 : Int32) (x2 : Int32) : km 1 37 [.ref 112, .int x1, .int x2] (ks i a q r) (kPI (ks i a q r) (fun v => (v = 1 ∧ (((0 : Int) ≤ x2.toInt) ∧ (x2.toInt ≤ (i 7171).toInt) ∧ ((0 : Int) ≤ x1.toInt) ∧ ((x1.toInt + x2.toInt) ≤ (i 7171).toInt))) ∨ (v = 0 ∧ (¬ (((0 : Int) ≤ x2.toInt) ∧ (x2.toInt ≤ (i 7171).toInt) ∧ ((0 : Int) ≤ x1.toInt) ∧ ((x1.toInt + x2.toInt) ≤ (i 7171).toInt)))))) := by
  have hG := kG_self kW0 hI hr
  refine km_ofPI (q := (mi_h37, mi_c37)) rfl (by decide) (Nat.le_of_ble_eq_true rfl) ?_
  intro P hP
  refine ft_go mi_k37 1 1 [(0, .ref 112), (1, .int x1), (2, .int x2)] [.int x2] i a q r (by rfl) ?_
  refine ft_if mi_k37 (decide (x2 < 0)) 30 4 [(0, .ref 112), (1, .int x1), (2, .int x2)] [] (by rfl) (fun c => ?_) (fun c => ?_)
  ·
    have c1 : x2.toInt < (0 : Int32).toInt := kd_lt c; clear c
    refine ft_go mi_k37 1 31 [(0, .ref 112), (1, .int x1), (2, .int x2)] [.int 0] i a q r (by rfl) ?_
    have fi_7171 : ((0 : Int) ≤ (i 7171).toInt) ∧ ((i 7171).toInt ≤ 60) := hG.I.1 7171
    exact ft_ret mi_k37 (by rfl) (hP 0 (Or.inr ⟨rfl, (oz1272 c1 kn0)⟩))
  ·
    have c2 : (0 : Int32).toInt ≤ x2.toInt := kd_ltF c; clear c
    have fi_7171 : ((0 : Int) ≤ (i 7171).toInt) ∧ ((i 7171).toInt ≤ 60) := hG.I.1 7171
    refine ft_go mi_k37 3 9 [(0, .ref 112), (1, .int x1), (2, .int x2)] [.int (i 7171), .int x2] i a q r (by rfl) ?_
    refine ft_if mi_k37 (decide ((i 7171) < x2)) 30 12 [(0, .ref 112), (1, .int x1), (2, .int x2)] [] (by rfl) (fun c => ?_) (fun c => ?_)
    ·
      have c3 : (i 7171).toInt < x2.toInt := kd_lt c; clear c
      refine ft_go mi_k37 1 31 [(0, .ref 112), (1, .int x1), (2, .int x2)] [.int 0] i a q r (by rfl) ?_
      exact ft_ret mi_k37 (by rfl) (hP 0 (Or.inr ⟨rfl, (oz1273 c3)⟩))
    ·
      have c4 : x2.toInt ≤ (i 7171).toInt := kd_ltF c; clear c
      refine ft_go mi_k37 1 13 [(0, .ref 112), (1, .int x1), (2, .int x2)] [.int x1] i a q r (by rfl) ?_
      refine ft_if mi_k37 (decide (x1 < 0)) 30 16 [(0, .ref 112), (1, .int x1), (2, .int x2)] [] (by rfl) (fun c => ?_) (fun c => ?_)
      ·
        have c5 : x1.toInt < (0 : Int32).toInt := kd_lt c; clear c
        refine ft_go mi_k37 1 31 [(0, .ref 112), (1, .int x1), (2, .int x2)] [.int 0] i a q r (by rfl) ?_
        exact ft_ret mi_k37 (by rfl) (hP 0 (Or.inr ⟨rfl, (oz1274 c5 kn0)⟩))
      ·
        have c6 : (0 : Int32).toInt ≤ x1.toInt := kd_ltF c; clear c
        have s7 : ((i 7171) - x2).toInt = (i 7171).toInt - x2.toInt := kd_sub (oz551 c4) (oz1275 c2 fi_7171.2 kn0)
        refine ft_go mi_k37 5 23 [(0, .ref 112), (1, .int x1), (2, .int x2)] [.int ((i 7171) - x2), .int x1] i a q r (by rfl) ?_
        refine ft_if mi_k37 (decide (((i 7171) - x2) < x1)) 30 26 [(0, .ref 112), (1, .int x1), (2, .int x2)] [] (by rfl) (fun c => ?_) (fun c => ?_)
        ·
          have c8 : ((i 7171) - x2).toInt < x1.toInt := kd_lt c; clear c
          refine ft_go mi_k37 1 31 [(0, .ref 112), (1, .int x1), (2, .int x2)] [.int 0] i a q r (by rfl) ?_
          exact ft_ret mi_k37 (by rfl) (hP 0 (Or.inr ⟨rfl, (oz1276 c8 s7)⟩))
        ·
          have c9 : x1.toInt ≤ ((i 7171) - x2).toInt := kd_ltF c; clear c
          refine ft_go mi_k37 2 31 [(0, .ref 112), (1, .int x1), (2, .int x2)] [.int 1] i a q r (by rfl) ?_
          exact ft_ret mi_k37 (by rfl) (hP 1 (Or.inl ⟨rfl, (oz1277 c2 c4 c6 c9 s7 kn0)⟩))
set_option maxRecDepth 100000 in
theorem kc37_114 {i : Nat → Int32} {a : Nat → List Int32} {q : Nat → List Int64} {r : Nat → Nat} (hI : kI i a q) (hr : kr r) (x1 : Int32) (x2 : Int32) : km 1 37 [.ref 114, .int x1, .int x2] (ks i a q r) (kPI (ks i a q r) (fun v => (v = 1 ∧ (((0 : Int) ≤ x2.toInt) ∧ (x2.toInt ≤ (i 7299).toInt) ∧ ((0 : Int) ≤ x1.toInt) ∧ ((x1.toInt + x2.toInt) ≤ (i 7299).toInt))) ∨ (v = 0 ∧ (¬ (((0 : Int) ≤ x2.toInt) ∧ (x2.toInt ≤ (i 7299).toInt) ∧ ((0 : Int) ≤ x1.toInt) ∧ ((x1.toInt + x2.toInt) ≤ (i 7299).toInt)))))) := by
  have hG := kG_self kW0 hI hr
  refine km_ofPI (q := (mi_h37, mi_c37)) rfl (by decide) (Nat.le_of_ble_eq_true rfl) ?_
  intro P hP
  refine ft_go mi_k37 1 1 [(0, .ref 114), (1, .int x1), (2, .int x2)] [.int x2] i a q r (by rfl) ?_
  refine ft_if mi_k37 (decide (x2 < 0)) 30 4 [(0, .ref 114), (1, .int x1), (2, .int x2)] [] (by rfl) (fun c => ?_) (fun c => ?_)
  ·
    have c1 : x2.toInt < (0 : Int32).toInt := kd_lt c; clear c
    refine ft_go mi_k37 1 31 [(0, .ref 114), (1, .int x1), (2, .int x2)] [.int 0] i a q r (by rfl) ?_
    have fi_7299 : ((0 : Int) ≤ (i 7299).toInt) ∧ ((i 7299).toInt ≤ 60) := hG.I.1 7299
    exact ft_ret mi_k37 (by rfl) (hP 0 (Or.inr ⟨rfl, (oz1272 c1 kn0)⟩))
  ·
    have c2 : (0 : Int32).toInt ≤ x2.toInt := kd_ltF c; clear c
    have fi_7299 : ((0 : Int) ≤ (i 7299).toInt) ∧ ((i 7299).toInt ≤ 60) := hG.I.1 7299
    refine ft_go mi_k37 3 9 [(0, .ref 114), (1, .int x1), (2, .int x2)] [.int (i 7299), .int x2] i a q r (by rfl) ?_
    refine ft_if mi_k37 (decide ((i 7299) < x2)) 30 12 [(0, .ref 114), (1, .int x1), (2, .int x2)] [] (by rfl) (fun c => ?_) (fun c => ?_)
    ·
      have c3 : (i 7299).toInt < x2.toInt := kd_lt c; clear c
      refine ft_go mi_k37 1 31 [(0, .ref 114), (1, .int x1), (2, .int x2)] [.int 0] i a q r (by rfl) ?_
      exact ft_ret mi_k37 (by rfl) (hP 0 (Or.inr ⟨rfl, (oz1273 c3)⟩))
    ·
      have c4 : x2.toInt ≤ (i 7299).toInt := kd_ltF c; clear c
      refine ft_go mi_k37 1 13 [(0, .ref 114), (1, .int x1), (2, .int x2)] [.int x1] i a q r (by rfl) ?_
      refine ft_if mi_k37 (decide (x1 < 0)) 30 16 [(0, .ref 114), (1, .int x1), (2, .int x2)] [] (by rfl) (fun c => ?_) (fun c => ?_)
      ·
        have c5 : x1.toInt < (0 : Int32).toInt := kd_lt c; clear c
        refine ft_go mi_k37 1 31 [(0, .ref 114), (1, .int x1), (2, .int x2)] [.int 0] i a q r (by rfl) ?_
        exact ft_ret mi_k37 (by rfl) (hP 0 (Or.inr ⟨rfl, (oz1274 c5 kn0)⟩))
      ·
        have c6 : (0 : Int32).toInt ≤ x1.toInt := kd_ltF c; clear c
        have s7 : ((i 7299) - x2).toInt = (i 7299).toInt - x2.toInt := kd_sub (oz551 c4) (oz1275 c2 fi_7299.2 kn0)
        refine ft_go mi_k37 5 23 [(0, .ref 114), (1, .int x1), (2, .int x2)] [.int ((i 7299) - x2), .int x1] i a q r (by rfl) ?_
        refine ft_if mi_k37 (decide (((i 7299) - x2) < x1)) 30 26 [(0, .ref 114), (1, .int x1), (2, .int x2)] [] (by rfl) (fun c => ?_) (fun c => ?_)
        ·
          have c8 : ((i 7299) - x2).toInt < x1.toInt := kd_lt c; clear c
          refine ft_go mi_k37 1 31 [(0, .ref 114), (1, .int x1), (2, .int x2)] [.int 0] i a q r (by rfl) ?_
          exact ft_ret mi_k37 (by rfl) (hP 0 (Or.inr ⟨rfl, (oz1276 c8 s7)⟩))
        ·
          have c9 : x1.toInt ≤ ((i 7299) - x2).toInt := kd_ltF c; clear c
          refine ft_go mi_k37 2 31 [(0, .ref 114), (1, .int x1), (2, .int x2)] [.int 1] i a q r (by rfl) ?_
          exact ft_ret mi_k37 (by rfl) (hP 1 (Or.inl ⟨rfl, (oz1277 c2 c4 c6 c9 s7 kn0)⟩))
def w117_0 : kW := ([], [], [105, 107, 109, 111, 113, 115], [])
set_option maxRecDepth 100000 in
theorem kc117_0 {i : Nat → Int32} {a : Nat → List Int32} {q : Nat → List Int64} {r : Nat → Nat} (hI : kI i a q) (hr : kr r) (x1 : Int32) (x2 : Int32) (x3 : Int32) (x4 : Int32) (x5 : Int32) : km 5 117 [.ref 0, .int x1, .int x2, .int x3, .int x4, .int x5] (ks i a q r) (kVI w117_0 i a q r (fun v i1 a1 q1 r1 => True)) := by
  have hG := kG_self w117_0 hI hr
  refine km_ofI (q := (mi_h117, mi_c117)) rfl (by decide) (Nat.le_of_ble_eq_true rfl) ?_
  intro P hP
  first | refine ft_go mi_k117 1 1 [(0, .ref 0), (1, .int x1), (2, .int x2), (3, .int x3), (4, .int x4), (5, .int x5)] [.int x1] i a q r (by rfl) ?_ | refine ko_steps mi_in117 1 _ (1, [(0, .ref 0), (1, .int x1), (2, .int x2), (3, .int x3), (4, .int x4), (5, .int x5)], [.int x1], (0, 0), ks i a q r) (by rfl) ?_
  refine ko_callPI mi_k117.1 (pc := 1) (ls := [(0, .ref 0), (1, .int x1), (2, .int x2), (3, .int x3), (4, .int x4), (5, .int x5)]) (st := [.int x1]) (h := ks i a q r) (i := (.invokestatic 70, 3, 121, 0, 9, 0, 157)) (mi_k117.2 _ _ (by rfl)) (ft_invS mi_pq121 (by rfl)) (cy := mi_c121) mi_pq121 rfl (kc121 hG.I hG.R x1) (by decide) ?_
  intro vg1 hg1
  rcases hg1 with ⟨eg1, hg1⟩ | ⟨eg1, hg1⟩
  ·
    subst eg1
    have z2 : ((0 : Int) ≤ x1.toInt) ∧ (x1.toInt ≤ 5) := hg1
    first | refine ft_go mi_k117 2 8 [(0, .ref 0), (1, .int x1), (2, .int x2), (3, .int x3), (4, .int x4), (5, .int x5)] [.int x3] i a q r (by rfl) ?_ | refine ko_steps mi_in117 2 _ (8, [(0, .ref 0), (1, .int x1), (2, .int x2), (3, .int x3), (4, .int x4), (5, .int x5)], [.int x3], (0, 0), ks i a q r) (by rfl) ?_
    refine ko_callPI mi_k117.1 (pc := 8) (ls := [(0, .ref 0), (1, .int x1), (2, .int x2), (3, .int x3), (4, .int x4), (5, .int x5)]) (st := [.int x3]) (h := ks i a q r) (i := (.invokestatic 70, 3, 121, 0, 9, 0, 157)) (mi_k117.2 _ _ (by rfl)) (ft_invS mi_pq121 (by rfl)) (cy := mi_c121) mi_pq121 rfl (kc121 hG.I hG.R x3) (by decide) ?_
    intro vg3 hg3
    rcases hg3 with ⟨eg3, hg3⟩ | ⟨eg3, hg3⟩
    ·
      subst eg3
      have z4 : ((0 : Int) ≤ x3.toInt) ∧ (x3.toInt ≤ 5) := hg3
      first | refine ft_go mi_k117 4 21 [(0, .ref 0), (1, .int x1), (2, .int x2), (3, .int x3), (4, .int x4), (5, .int x5)] [.int x1, .ref 97] i a q r (by rfl) ?_ | refine ko_steps mi_in117 4 _ (21, [(0, .ref 0), (1, .int x1), (2, .int x2), (3, .int x3), (4, .int x4), (5, .int x5)], [.int x1, .ref 97], (0, 0), ks i a q r) (by rfl) ?_
      by_cases w5 : x1.toInt = 0
      ·
        refine ko_eq (x1 := (21, [(0, .ref 0), (1, .int x1), (2, .int x2), (3, .int x3), (4, .int x4), (5, .int x5)], [.int 0, .ref 97], (0, 0), ks i a q r)) (by rw [(kj_eq w5 (by decide) : x1 = 0)]) ?_
        first | refine ft_go mi_k117 5 29 [(6, .ref 104), (0, .ref 0), (1, .int x1), (2, .int x2), (3, .int x3), (4, .int x4), (5, .int x5)] [.int x3, .ref 97] i a q r (by rfl) ?_ | refine ko_steps mi_in117 5 _ (29, [(6, .ref 104), (0, .ref 0), (1, .int x1), (2, .int x2), (3, .int x3), (4, .int x4), (5, .int x5)], [.int x3, .ref 97], (0, 0), ks i a q r) (by rfl) ?_
        by_cases w6 : x3.toInt = 0
        ·
          refine ko_eq (x1 := (29, [(6, .ref 104), (0, .ref 0), (1, .int x1), (2, .int x2), (3, .int x3), (4, .int x4), (5, .int x5)], [.int 0, .ref 97], (0, 0), ks i a q r)) (by rw [(kj_eq w6 (by decide) : x3 = 0)]) ?_
          have fi_6656 : ((0 : Int) ≤ (i 6656).toInt) ∧ ((i 6656).toInt ≤ 2) := hG.I.1 6656
          first | refine ft_go mi_k117 4 37 [(7, .ref 104), (6, .ref 104), (0, .ref 0), (1, .int x1), (2, .int x2), (3, .int x3), (4, .int x4), (5, .int x5)] [.int (i 6656)] i a q r (by rfl) ?_ | refine ko_steps mi_in117 4 _ (37, [(7, .ref 104), (6, .ref 104), (0, .ref 0), (1, .int x1), (2, .int x2), (3, .int x3), (4, .int x4), (5, .int x5)], [.int (i 6656)], (0, 0), ks i a q r) (by rfl) ?_
          refine ft_if mi_k117 ((i 6656) == 0) 48 40 [(7, .ref 104), (6, .ref 104), (0, .ref 0), (1, .int x1), (2, .int x2), (3, .int x3), (4, .int x4), (5, .int x5)] [] (by rfl) (fun c => ?_) (fun c => ?_)
          ·
            have c7 : (i 6656).toInt = (0 : Int32).toInt := kd_eq c; clear c
            first | refine ft_go mi_k117 1 50 [(7, .ref 104), (6, .ref 104), (0, .ref 0), (1, .int x1), (2, .int x2), (3, .int x3), (4, .int x4), (5, .int x5)] [.int (-11)] i a q r (by rfl) ?_ | refine ko_steps mi_in117 1 _ (50, [(7, .ref 104), (6, .ref 104), (0, .ref 0), (1, .int x1), (2, .int x2), (3, .int x3), (4, .int x4), (5, .int x5)], [.int (-11)], (0, 0), ks i a q r) (by rfl) ?_
            exact ft_ret mi_k117 (by rfl) (hP (-11) _ _ _ _ hG trivial)
          ·
            have c8 : (i 6656).toInt ≠ (0 : Int32).toInt := kd_eqF c; clear c
            first | refine ft_go mi_k117 2 45 [(7, .ref 104), (6, .ref 104), (0, .ref 0), (1, .int x1), (2, .int x2), (3, .int x3), (4, .int x4), (5, .int x5)] [.int (i 6656)] i a q r (by rfl) ?_ | refine ko_steps mi_in117 2 _ (45, [(7, .ref 104), (6, .ref 104), (0, .ref 0), (1, .int x1), (2, .int x2), (3, .int x3), (4, .int x4), (5, .int x5)], [.int (i 6656)], (0, 0), ks i a q r) (by rfl) ?_
            refine ft_if mi_k117 ((i 6656) != 0) 51 48 [(7, .ref 104), (6, .ref 104), (0, .ref 0), (1, .int x1), (2, .int x2), (3, .int x3), (4, .int x4), (5, .int x5)] [] (by rfl) (fun c => ?_) (fun c => ?_)
            ·
              have c9 : (i 6656).toInt ≠ (0 : Int32).toInt := kd_ne c; clear c
              first | refine ft_go mi_k117 3 57 [(7, .ref 104), (6, .ref 104), (0, .ref 0), (1, .int x1), (2, .int x2), (3, .int x3), (4, .int x4), (5, .int x5)] [.int 2, .int (i 6656)] i a q r (by rfl) ?_ | refine ko_steps mi_in117 3 _ (57, [(7, .ref 104), (6, .ref 104), (0, .ref 0), (1, .int x1), (2, .int x2), (3, .int x3), (4, .int x4), (5, .int x5)], [.int 2, .int (i 6656)], (0, 0), ks i a q r) (by rfl) ?_
              refine ft_if mi_k117 ((i 6656) != 2) 82 60 [(7, .ref 104), (6, .ref 104), (0, .ref 0), (1, .int x1), (2, .int x2), (3, .int x3), (4, .int x4), (5, .int x5)] [] (by rfl) (fun c => ?_) (fun c => ?_)
              ·
                have c10 : (i 6656).toInt ≠ (2 : Int32).toInt := kd_ne c; clear c
                first | refine ft_go mi_k117 1 84 [(7, .ref 104), (6, .ref 104), (0, .ref 0), (1, .int x1), (2, .int x2), (3, .int x3), (4, .int x4), (5, .int x5)] [.int (-12)] i a q r (by rfl) ?_ | refine ko_steps mi_in117 1 _ (84, [(7, .ref 104), (6, .ref 104), (0, .ref 0), (1, .int x1), (2, .int x2), (3, .int x3), (4, .int x4), (5, .int x5)], [.int (-12)], (0, 0), ks i a q r) (by rfl) ?_
                exact ft_ret mi_k117 (by rfl) (hP (-12) _ _ _ _ hG trivial)
              ·
                have c11 : (i 6656).toInt = (2 : Int32).toInt := kd_neF c; clear c
                first | refine ft_go mi_k117 3 66 [(7, .ref 104), (6, .ref 104), (0, .ref 0), (1, .int x1), (2, .int x2), (3, .int x3), (4, .int x4), (5, .int x5)] [.int 2, .int (i 6656)] i a q r (by rfl) ?_ | refine ko_steps mi_in117 3 _ (66, [(7, .ref 104), (6, .ref 104), (0, .ref 0), (1, .int x1), (2, .int x2), (3, .int x3), (4, .int x4), (5, .int x5)], [.int 2, .int (i 6656)], (0, 0), ks i a q r) (by rfl) ?_
                refine ft_if mi_k117 ((i 6656) != 2) 82 69 [(7, .ref 104), (6, .ref 104), (0, .ref 0), (1, .int x1), (2, .int x2), (3, .int x3), (4, .int x4), (5, .int x5)] [] (by rfl) (fun c => ?_) (fun c => ?_)
                ·
                  have c12 : (i 6656).toInt ≠ (2 : Int32).toInt := kd_ne c; clear c
                  exact (oz1271 c11 c12 fi_6656.2 kn2).elim
                ·
                  have c13 : (i 6656).toInt = (2 : Int32).toInt := kd_neF c; clear c
                  have fi_6658 : ((0 : Int) ≤ (i 6658).toInt) ∧ ((i 6658).toInt ≤ 4) := hG.I.1 6658
                  first | refine ft_go mi_k117 4 79 [(7, .ref 104), (6, .ref 104), (0, .ref 0), (1, .int x1), (2, .int x2), (3, .int x3), (4, .int x4), (5, .int x5)] [.int (i 6658), .int (i 6658)] i a q r (by rfl) ?_ | refine ko_steps mi_in117 4 _ (79, [(7, .ref 104), (6, .ref 104), (0, .ref 0), (1, .int x1), (2, .int x2), (3, .int x3), (4, .int x4), (5, .int x5)], [.int (i 6658), .int (i 6658)], (0, 0), ks i a q r) (by rfl) ?_
                  refine ft_if mi_k117 ((i 6658) == (i 6658)) 85 82 [(7, .ref 104), (6, .ref 104), (0, .ref 0), (1, .int x1), (2, .int x2), (3, .int x3), (4, .int x4), (5, .int x5)] [] (by rfl) (fun c => ?_) (fun c => ?_)
                  ·
                    have c14 : (i 6658).toInt = (i 6658).toInt := kd_eq c; clear c
                    first | refine ft_go mi_k117 3 90 [(7, .ref 104), (6, .ref 104), (0, .ref 0), (1, .int x1), (2, .int x2), (3, .int x3), (4, .int x4), (5, .int x5)] [.int x5, .int x2, .ref 104] i a q r (by rfl) ?_ | refine ko_steps mi_in117 3 _ (90, [(7, .ref 104), (6, .ref 104), (0, .ref 0), (1, .int x1), (2, .int x2), (3, .int x3), (4, .int x4), (5, .int x5)], [.int x5, .int x2, .ref 104], (0, 0), ks i a q r) (by rfl) ?_
                    refine ko_callPI mi_k117.1 (pc := 90) (ls := [(7, .ref 104), (6, .ref 104), (0, .ref 0), (1, .int x1), (2, .int x2), (3, .int x3), (4, .int x4), (5, .int x5)]) (st := [.int x5, .int x2, .ref 104]) (h := ks i a q r) (i := (.invokevirtual 324, 3, 37, 0, 9, 0, 316)) (mi_k117.2 _ _ (by rfl)) (ft_invS mi_pq37 (by rfl)) (cy := mi_c37) mi_pq37 rfl (kc37_104 hG.I hG.R x2 x5) (by decide) ?_
                    intro vg15 hg15
                    rcases hg15 with ⟨eg15, hg15⟩ | ⟨eg15, hg15⟩
                    ·
                      subst eg15
                      have fi_6659 : ((0 : Int) ≤ (i 6659).toInt) ∧ ((i 6659).toInt ≤ 60) := hG.I.1 6659
                      have z16 : ((0 : Int) ≤ x5.toInt) ∧ (x5.toInt ≤ (i 6659).toInt) ∧ ((0 : Int) ≤ x2.toInt) ∧ ((x2.toInt + x5.toInt) ≤ (i 6659).toInt) := hg15
                      first | refine ft_go mi_k117 4 102 [(7, .ref 104), (6, .ref 104), (0, .ref 0), (1, .int x1), (2, .int x2), (3, .int x3), (4, .int x4), (5, .int x5)] [.int x5, .int x4, .ref 104] i a q r (by rfl) ?_ | refine ko_steps mi_in117 4 _ (102, [(7, .ref 104), (6, .ref 104), (0, .ref 0), (1, .int x1), (2, .int x2), (3, .int x3), (4, .int x4), (5, .int x5)], [.int x5, .int x4, .ref 104], (0, 0), ks i a q r) (by rfl) ?_
                      refine ko_callPI mi_k117.1 (pc := 102) (ls := [(7, .ref 104), (6, .ref 104), (0, .ref 0), (1, .int x1), (2, .int x2), (3, .int x3), (4, .int x4), (5, .int x5)]) (st := [.int x5, .int x4, .ref 104]) (h := ks i a q r) (i := (.invokevirtual 324, 3, 37, 0, 9, 0, 316)) (mi_k117.2 _ _ (by rfl)) (ft_invS mi_pq37 (by rfl)) (cy := mi_c37) mi_pq37 rfl (kc37_104 hG.I hG.R x4 x5) (by decide) ?_
                      intro vg17 hg17
                      rcases hg17 with ⟨eg17, hg17⟩ | ⟨eg17, hg17⟩
                      ·
                        subst eg17
                        have z18 : ((0 : Int) ≤ x5.toInt) ∧ (x5.toInt ≤ (i 6659).toInt) ∧ ((0 : Int) ≤ x4.toInt) ∧ ((x4.toInt + x5.toInt) ≤ (i 6659).toInt) := hg17
                        first | refine ft_go mi_k117 8 126 [(7, .ref 104), (6, .ref 104), (0, .ref 0), (1, .int x1), (2, .int x2), (3, .int x3), (4, .int x4), (5, .int x5)] [.int x5, .int x4, .ref 105, .int x2, .ref 105] i a q r (by rfl) ?_ | refine ko_steps mi_in117 8 _ (126, [(7, .ref 104), (6, .ref 104), (0, .ref 0), (1, .int x1), (2, .int x2), (3, .int x3), (4, .int x4), (5, .int x5)], [.int x5, .int x4, .ref 105, .int x2, .ref 105], (0, 0), ks i a q r) (by rfl) ?_
                        have hJ19 := kG_q hG 105 rfl (z := mi_cpy (q 105) (q 105) x2.toNatClampNeg x4.toNatClampNeg x5.toNatClampNeg) (kcpy_len2 (n := 60) (c := 60) (m := 60) (b := 60) (sp := x2) (dp := x4) (n1 := x5) (hG.I.2.2.2 105) rfl (hG.I.2.2.2 105) rfl (oz3 z16.1) (oz3 z16.2.2.1) (oz3 z18.2.2.1) (oz1278 fi_6659.2 z16.2.2.2) (oz1278 fi_6659.2 z18.2.2.2))
                        refine ko_copyL2 mi_k117.1 (l := q 105) (g := q 105) (n := 60) (c := 60) (m := 60) (b := 60) (mi_k117.2 _ _ (by rfl)) (by rfl) (by rfl) (by rfl) (by rfl) (by rfl) (hG.I.2.2.2 105) rfl (hG.I.2.2.2 105) rfl (oz3 z16.1) (oz3 z16.2.2.1) (oz3 z18.2.2.1) (oz1278 fi_6659.2 z16.2.2.2) (oz1278 fi_6659.2 z18.2.2.2) (h5 := ks i a (ku q 105 (mi_cpy (q 105) (q 105) x2.toNatClampNeg x4.toNatClampNeg x5.toNatClampNeg)) r) (by rfl) ?_
                        first | refine ft_go mi_k117 1 131 [(7, .ref 104), (6, .ref 104), (0, .ref 0), (1, .int x1), (2, .int x2), (3, .int x3), (4, .int x4), (5, .int x5)] [.int x5] i a (ku q 105 (mi_cpy (q 105) (q 105) x2.toNatClampNeg x4.toNatClampNeg x5.toNatClampNeg)) r (by rfl) ?_ | refine ko_steps mi_in117 1 _ (131, [(7, .ref 104), (6, .ref 104), (0, .ref 0), (1, .int x1), (2, .int x2), (3, .int x3), (4, .int x4), (5, .int x5)], [.int x5], (0, 0), ks i a (ku q 105 (mi_cpy (q 105) (q 105) x2.toNatClampNeg x4.toNatClampNeg x5.toNatClampNeg)) r) (by rfl) ?_
                        exact ft_ret mi_k117 (by rfl) (hP x5 _ _ _ _ hJ19 trivial)
                      ·
                        subst eg17
                        have z20 : ¬ (((0 : Int) ≤ x5.toInt) ∧ (x5.toInt ≤ (i 6659).toInt) ∧ ((0 : Int) ≤ x4.toInt) ∧ ((x4.toInt + x5.toInt) ≤ (i 6659).toInt)) := hg17
                        first | refine ft_go mi_k117 2 110 [(7, .ref 104), (6, .ref 104), (0, .ref 0), (1, .int x1), (2, .int x2), (3, .int x3), (4, .int x4), (5, .int x5)] [.int (-13)] i a q r (by rfl) ?_ | refine ko_steps mi_in117 2 _ (110, [(7, .ref 104), (6, .ref 104), (0, .ref 0), (1, .int x1), (2, .int x2), (3, .int x3), (4, .int x4), (5, .int x5)], [.int (-13)], (0, 0), ks i a q r) (by rfl) ?_
                        exact ft_ret mi_k117 (by rfl) (hP (-13) _ _ _ _ hG trivial)
                    ·
                      subst eg15
                      have fi_6659 : ((0 : Int) ≤ (i 6659).toInt) ∧ ((i 6659).toInt ≤ 60) := hG.I.1 6659
                      have z21 : ¬ (((0 : Int) ≤ x5.toInt) ∧ (x5.toInt ≤ (i 6659).toInt) ∧ ((0 : Int) ≤ x2.toInt) ∧ ((x2.toInt + x5.toInt) ≤ (i 6659).toInt)) := hg15
                      first | refine ft_go mi_k117 2 110 [(7, .ref 104), (6, .ref 104), (0, .ref 0), (1, .int x1), (2, .int x2), (3, .int x3), (4, .int x4), (5, .int x5)] [.int (-13)] i a q r (by rfl) ?_ | refine ko_steps mi_in117 2 _ (110, [(7, .ref 104), (6, .ref 104), (0, .ref 0), (1, .int x1), (2, .int x2), (3, .int x3), (4, .int x4), (5, .int x5)], [.int (-13)], (0, 0), ks i a q r) (by rfl) ?_
                      exact ft_ret mi_k117 (by rfl) (hP (-13) _ _ _ _ hG trivial)
                  ·
                    have c22 : (i 6658).toInt ≠ (i 6658).toInt := kd_eqF c; clear c
                    exact (oz1279 c22).elim
            ·
              have c23 : (i 6656).toInt = (0 : Int32).toInt := kd_neF c; clear c
              exact (oz1280 c23 c8 fi_6656.1 kn0).elim
        by_cases w24 : x3.toInt = 1
        ·
          refine ko_eq (x1 := (29, [(6, .ref 104), (0, .ref 0), (1, .int x1), (2, .int x2), (3, .int x3), (4, .int x4), (5, .int x5)], [.int 1, .ref 97], (0, 0), ks i a q r)) (by rw [(kj_eq w24 (by decide) : x3 = 1)]) ?_
          have fi_6656 : ((0 : Int) ≤ (i 6656).toInt) ∧ ((i 6656).toInt ≤ 2) := hG.I.1 6656
          first | refine ft_go mi_k117 4 37 [(7, .ref 106), (6, .ref 104), (0, .ref 0), (1, .int x1), (2, .int x2), (3, .int x3), (4, .int x4), (5, .int x5)] [.int (i 6656)] i a q r (by rfl) ?_ | refine ko_steps mi_in117 4 _ (37, [(7, .ref 106), (6, .ref 104), (0, .ref 0), (1, .int x1), (2, .int x2), (3, .int x3), (4, .int x4), (5, .int x5)], [.int (i 6656)], (0, 0), ks i a q r) (by rfl) ?_
          refine ft_if mi_k117 ((i 6656) == 0) 48 40 [(7, .ref 106), (6, .ref 104), (0, .ref 0), (1, .int x1), (2, .int x2), (3, .int x3), (4, .int x4), (5, .int x5)] [] (by rfl) (fun c => ?_) (fun c => ?_)
          ·
            have c25 : (i 6656).toInt = (0 : Int32).toInt := kd_eq c; clear c
            first | refine ft_go mi_k117 1 50 [(7, .ref 106), (6, .ref 104), (0, .ref 0), (1, .int x1), (2, .int x2), (3, .int x3), (4, .int x4), (5, .int x5)] [.int (-11)] i a q r (by rfl) ?_ | refine ko_steps mi_in117 1 _ (50, [(7, .ref 106), (6, .ref 104), (0, .ref 0), (1, .int x1), (2, .int x2), (3, .int x3), (4, .int x4), (5, .int x5)], [.int (-11)], (0, 0), ks i a q r) (by rfl) ?_
            exact ft_ret mi_k117 (by rfl) (hP (-11) _ _ _ _ hG trivial)
          ·
            have c26 : (i 6656).toInt ≠ (0 : Int32).toInt := kd_eqF c; clear c
            have fi_6784 : ((0 : Int) ≤ (i 6784).toInt) ∧ ((i 6784).toInt ≤ 2) := hG.I.1 6784
            first | refine ft_go mi_k117 2 45 [(7, .ref 106), (6, .ref 104), (0, .ref 0), (1, .int x1), (2, .int x2), (3, .int x3), (4, .int x4), (5, .int x5)] [.int (i 6784)] i a q r (by rfl) ?_ | refine ko_steps mi_in117 2 _ (45, [(7, .ref 106), (6, .ref 104), (0, .ref 0), (1, .int x1), (2, .int x2), (3, .int x3), (4, .int x4), (5, .int x5)], [.int (i 6784)], (0, 0), ks i a q r) (by rfl) ?_
            refine ft_if mi_k117 ((i 6784) != 0) 51 48 [(7, .ref 106), (6, .ref 104), (0, .ref 0), (1, .int x1), (2, .int x2), (3, .int x3), (4, .int x4), (5, .int x5)] [] (by rfl) (fun c => ?_) (fun c => ?_)
            ·
              have c27 : (i 6784).toInt ≠ (0 : Int32).toInt := kd_ne c; clear c
              first | refine ft_go mi_k117 3 57 [(7, .ref 106), (6, .ref 104), (0, .ref 0), (1, .int x1), (2, .int x2), (3, .int x3), (4, .int x4), (5, .int x5)] [.int 2, .int (i 6656)] i a q r (by rfl) ?_ | refine ko_steps mi_in117 3 _ (57, [(7, .ref 106), (6, .ref 104), (0, .ref 0), (1, .int x1), (2, .int x2), (3, .int x3), (4, .int x4), (5, .int x5)], [.int 2, .int (i 6656)], (0, 0), ks i a q r) (by rfl) ?_
              refine ft_if mi_k117 ((i 6656) != 2) 82 60 [(7, .ref 106), (6, .ref 104), (0, .ref 0), (1, .int x1), (2, .int x2), (3, .int x3), (4, .int x4), (5, .int x5)] [] (by rfl) (fun c => ?_) (fun c => ?_)
              ·
                have c28 : (i 6656).toInt ≠ (2 : Int32).toInt := kd_ne c; clear c
                first | refine ft_go mi_k117 1 84 [(7, .ref 106), (6, .ref 104), (0, .ref 0), (1, .int x1), (2, .int x2), (3, .int x3), (4, .int x4), (5, .int x5)] [.int (-12)] i a q r (by rfl) ?_ | refine ko_steps mi_in117 1 _ (84, [(7, .ref 106), (6, .ref 104), (0, .ref 0), (1, .int x1), (2, .int x2), (3, .int x3), (4, .int x4), (5, .int x5)], [.int (-12)], (0, 0), ks i a q r) (by rfl) ?_
                exact ft_ret mi_k117 (by rfl) (hP (-12) _ _ _ _ hG trivial)
              ·
                have c29 : (i 6656).toInt = (2 : Int32).toInt := kd_neF c; clear c
                first | refine ft_go mi_k117 3 66 [(7, .ref 106), (6, .ref 104), (0, .ref 0), (1, .int x1), (2, .int x2), (3, .int x3), (4, .int x4), (5, .int x5)] [.int 2, .int (i 6784)] i a q r (by rfl) ?_ | refine ko_steps mi_in117 3 _ (66, [(7, .ref 106), (6, .ref 104), (0, .ref 0), (1, .int x1), (2, .int x2), (3, .int x3), (4, .int x4), (5, .int x5)], [.int 2, .int (i 6784)], (0, 0), ks i a q r) (by rfl) ?_
                refine ft_if mi_k117 ((i 6784) != 2) 82 69 [(7, .ref 106), (6, .ref 104), (0, .ref 0), (1, .int x1), (2, .int x2), (3, .int x3), (4, .int x4), (5, .int x5)] [] (by rfl) (fun c => ?_) (fun c => ?_)
                ·
                  have c30 : (i 6784).toInt ≠ (2 : Int32).toInt := kd_ne c; clear c
                  first | refine ft_go mi_k117 1 84 [(7, .ref 106), (6, .ref 104), (0, .ref 0), (1, .int x1), (2, .int x2), (3, .int x3), (4, .int x4), (5, .int x5)] [.int (-12)] i a q r (by rfl) ?_ | refine ko_steps mi_in117 1 _ (84, [(7, .ref 106), (6, .ref 104), (0, .ref 0), (1, .int x1), (2, .int x2), (3, .int x3), (4, .int x4), (5, .int x5)], [.int (-12)], (0, 0), ks i a q r) (by rfl) ?_
                  exact ft_ret mi_k117 (by rfl) (hP (-12) _ _ _ _ hG trivial)
                ·
                  have c31 : (i 6784).toInt = (2 : Int32).toInt := kd_neF c; clear c
                  have fi_6658 : ((0 : Int) ≤ (i 6658).toInt) ∧ ((i 6658).toInt ≤ 4) := hG.I.1 6658
                  have fi_6786 : ((0 : Int) ≤ (i 6786).toInt) ∧ ((i 6786).toInt ≤ 4) := hG.I.1 6786
                  first | refine ft_go mi_k117 4 79 [(7, .ref 106), (6, .ref 104), (0, .ref 0), (1, .int x1), (2, .int x2), (3, .int x3), (4, .int x4), (5, .int x5)] [.int (i 6786), .int (i 6658)] i a q r (by rfl) ?_ | refine ko_steps mi_in117 4 _ (79, [(7, .ref 106), (6, .ref 104), (0, .ref 0), (1, .int x1), (2, .int x2), (3, .int x3), (4, .int x4), (5, .int x5)], [.int (i 6786), .int (i 6658)], (0, 0), ks i a q r) (by rfl) ?_
                  refine ft_if mi_k117 ((i 6658) == (i 6786)) 85 82 [(7, .ref 106), (6, .ref 104), (0, .ref 0), (1, .int x1), (2, .int x2), (3, .int x3), (4, .int x4), (5, .int x5)] [] (by rfl) (fun c => ?_) (fun c => ?_)
                  ·
                    have c32 : (i 6658).toInt = (i 6786).toInt := kd_eq c; clear c
                    first | refine ft_go mi_k117 3 90 [(7, .ref 106), (6, .ref 104), (0, .ref 0), (1, .int x1), (2, .int x2), (3, .int x3), (4, .int x4), (5, .int x5)] [.int x5, .int x2, .ref 104] i a q r (by rfl) ?_ | refine ko_steps mi_in117 3 _ (90, [(7, .ref 106), (6, .ref 104), (0, .ref 0), (1, .int x1), (2, .int x2), (3, .int x3), (4, .int x4), (5, .int x5)], [.int x5, .int x2, .ref 104], (0, 0), ks i a q r) (by rfl) ?_
                    refine ko_callPI mi_k117.1 (pc := 90) (ls := [(7, .ref 106), (6, .ref 104), (0, .ref 0), (1, .int x1), (2, .int x2), (3, .int x3), (4, .int x4), (5, .int x5)]) (st := [.int x5, .int x2, .ref 104]) (h := ks i a q r) (i := (.invokevirtual 324, 3, 37, 0, 9, 0, 316)) (mi_k117.2 _ _ (by rfl)) (ft_invS mi_pq37 (by rfl)) (cy := mi_c37) mi_pq37 rfl (kc37_104 hG.I hG.R x2 x5) (by decide) ?_
                    intro vg33 hg33
                    rcases hg33 with ⟨eg33, hg33⟩ | ⟨eg33, hg33⟩
                    ·
                      subst eg33
                      have fi_6659 : ((0 : Int) ≤ (i 6659).toInt) ∧ ((i 6659).toInt ≤ 60) := hG.I.1 6659
                      have z34 : ((0 : Int) ≤ x5.toInt) ∧ (x5.toInt ≤ (i 6659).toInt) ∧ ((0 : Int) ≤ x2.toInt) ∧ ((x2.toInt + x5.toInt) ≤ (i 6659).toInt) := hg33
                      first | refine ft_go mi_k117 4 102 [(7, .ref 106), (6, .ref 104), (0, .ref 0), (1, .int x1), (2, .int x2), (3, .int x3), (4, .int x4), (5, .int x5)] [.int x5, .int x4, .ref 106] i a q r (by rfl) ?_ | refine ko_steps mi_in117 4 _ (102, [(7, .ref 106), (6, .ref 104), (0, .ref 0), (1, .int x1), (2, .int x2), (3, .int x3), (4, .int x4), (5, .int x5)], [.int x5, .int x4, .ref 106], (0, 0), ks i a q r) (by rfl) ?_
                      refine ko_callPI mi_k117.1 (pc := 102) (ls := [(7, .ref 106), (6, .ref 104), (0, .ref 0), (1, .int x1), (2, .int x2), (3, .int x3), (4, .int x4), (5, .int x5)]) (st := [.int x5, .int x4, .ref 106]) (h := ks i a q r) (i := (.invokevirtual 324, 3, 37, 0, 9, 0, 316)) (mi_k117.2 _ _ (by rfl)) (ft_invS mi_pq37 (by rfl)) (cy := mi_c37) mi_pq37 rfl (kc37_106 hG.I hG.R x4 x5) (by decide) ?_
                      intro vg35 hg35
                      rcases hg35 with ⟨eg35, hg35⟩ | ⟨eg35, hg35⟩
                      ·
                        subst eg35
                        have fi_6787 : ((0 : Int) ≤ (i 6787).toInt) ∧ ((i 6787).toInt ≤ 60) := hG.I.1 6787
                        have z36 : ((0 : Int) ≤ x5.toInt) ∧ (x5.toInt ≤ (i 6787).toInt) ∧ ((0 : Int) ≤ x4.toInt) ∧ ((x4.toInt + x5.toInt) ≤ (i 6787).toInt) := hg35
                        first | refine ft_go mi_k117 8 126 [(7, .ref 106), (6, .ref 104), (0, .ref 0), (1, .int x1), (2, .int x2), (3, .int x3), (4, .int x4), (5, .int x5)] [.int x5, .int x4, .ref 107, .int x2, .ref 105] i a q r (by rfl) ?_ | refine ko_steps mi_in117 8 _ (126, [(7, .ref 106), (6, .ref 104), (0, .ref 0), (1, .int x1), (2, .int x2), (3, .int x3), (4, .int x4), (5, .int x5)], [.int x5, .int x4, .ref 107, .int x2, .ref 105], (0, 0), ks i a q r) (by rfl) ?_
                        have hJ37 := kG_q hG 107 rfl (z := mi_cpy (q 105) (q 107) x2.toNatClampNeg x4.toNatClampNeg x5.toNatClampNeg) (kcpy_len2 (n := 60) (c := 60) (m := 60) (b := 60) (sp := x2) (dp := x4) (n1 := x5) (hG.I.2.2.2 105) rfl (hG.I.2.2.2 107) rfl (oz3 z34.1) (oz3 z34.2.2.1) (oz3 z36.2.2.1) (oz1278 fi_6659.2 z34.2.2.2) (oz1278 fi_6787.2 z36.2.2.2))
                        refine ko_copyL2 mi_k117.1 (l := q 105) (g := q 107) (n := 60) (c := 60) (m := 60) (b := 60) (mi_k117.2 _ _ (by rfl)) (by rfl) (by rfl) (by rfl) (by rfl) (by rfl) (hG.I.2.2.2 105) rfl (hG.I.2.2.2 107) rfl (oz3 z34.1) (oz3 z34.2.2.1) (oz3 z36.2.2.1) (oz1278 fi_6659.2 z34.2.2.2) (oz1278 fi_6787.2 z36.2.2.2) (h5 := ks i a (ku q 107 (mi_cpy (q 105) (q 107) x2.toNatClampNeg x4.toNatClampNeg x5.toNatClampNeg)) r) (by rfl) ?_
                        first | refine ft_go mi_k117 1 131 [(7, .ref 106), (6, .ref 104), (0, .ref 0), (1, .int x1), (2, .int x2), (3, .int x3), (4, .int x4), (5, .int x5)] [.int x5] i a (ku q 107 (mi_cpy (q 105) (q 107) x2.toNatClampNeg x4.toNatClampNeg x5.toNatClampNeg)) r (by rfl) ?_ | refine ko_steps mi_in117 1 _ (131, [(7, .ref 106), (6, .ref 104), (0, .ref 0), (1, .int x1), (2, .int x2), (3, .int x3), (4, .int x4), (5, .int x5)], [.int x5], (0, 0), ks i a (ku q 107 (mi_cpy (q 105) (q 107) x2.toNatClampNeg x4.toNatClampNeg x5.toNatClampNeg)) r) (by rfl) ?_
                        exact ft_ret mi_k117 (by rfl) (hP x5 _ _ _ _ hJ37 trivial)
                      ·
                        subst eg35
                        have fi_6787 : ((0 : Int) ≤ (i 6787).toInt) ∧ ((i 6787).toInt ≤ 60) := hG.I.1 6787
                        have z38 : ¬ (((0 : Int) ≤ x5.toInt) ∧ (x5.toInt ≤ (i 6787).toInt) ∧ ((0 : Int) ≤ x4.toInt) ∧ ((x4.toInt + x5.toInt) ≤ (i 6787).toInt)) := hg35
                        first | refine ft_go mi_k117 2 110 [(7, .ref 106), (6, .ref 104), (0, .ref 0), (1, .int x1), (2, .int x2), (3, .int x3), (4, .int x4), (5, .int x5)] [.int (-13)] i a q r (by rfl) ?_ | refine ko_steps mi_in117 2 _ (110, [(7, .ref 106), (6, .ref 104), (0, .ref 0), (1, .int x1), (2, .int x2), (3, .int x3), (4, .int x4), (5, .int x5)], [.int (-13)], (0, 0), ks i a q r) (by rfl) ?_
                        exact ft_ret mi_k117 (by rfl) (hP (-13) _ _ _ _ hG trivial)
                    ·
                      subst eg33
                      have fi_6659 : ((0 : Int) ≤ (i 6659).toInt) ∧ ((i 6659).toInt ≤ 60) := hG.I.1 6659
                      have z39 : ¬ (((0 : Int) ≤ x5.toInt) ∧ (x5.toInt ≤ (i 6659).toInt) ∧ ((0 : Int) ≤ x2.toInt) ∧ ((x2.toInt + x5.toInt) ≤ (i 6659).toInt)) := hg33
                      first | refine ft_go mi_k117 2 110 [(7, .ref 106), (6, .ref 104), (0, .ref 0), (1, .int x1), (2, .int x2), (3, .int x3), (4, .int x4), (5, .int x5)] [.int (-13)] i a q r (by rfl) ?_ | refine ko_steps mi_in117 2 _ (110, [(7, .ref 106), (6, .ref 104), (0, .ref 0), (1, .int x1), (2, .int x2), (3, .int x3), (4, .int x4), (5, .int x5)], [.int (-13)], (0, 0), ks i a q r) (by rfl) ?_
                      exact ft_ret mi_k117 (by rfl) (hP (-13) _ _ _ _ hG trivial)
                  ·
                    have c40 : (i 6658).toInt ≠ (i 6786).toInt := kd_eqF c; clear c
                    first | refine ft_go mi_k117 1 84 [(7, .ref 106), (6, .ref 104), (0, .ref 0), (1, .int x1), (2, .int x2), (3, .int x3), (4, .int x4), (5, .int x5)] [.int (-12)] i a q r (by rfl) ?_ | refine ko_steps mi_in117 1 _ (84, [(7, .ref 106), (6, .ref 104), (0, .ref 0), (1, .int x1), (2, .int x2), (3, .int x3), (4, .int x4), (5, .int x5)], [.int (-12)], (0, 0), ks i a q r) (by rfl) ?_
                    exact ft_ret mi_k117 (by rfl) (hP (-12) _ _ _ _ hG trivial)
            ·
              have c41 : (i 6784).toInt = (0 : Int32).toInt := kd_neF c; clear c
              first | refine ft_go mi_k117 1 50 [(7, .ref 106), (6, .ref 104), (0, .ref 0), (1, .int x1), (2, .int x2), (3, .int x3), (4, .int x4), (5, .int x5)] [.int (-11)] i a q r (by rfl) ?_ | refine ko_steps mi_in117 1 _ (50, [(7, .ref 106), (6, .ref 104), (0, .ref 0), (1, .int x1), (2, .int x2), (3, .int x3), (4, .int x4), (5, .int x5)], [.int (-11)], (0, 0), ks i a q r) (by rfl) ?_
              exact ft_ret mi_k117 (by rfl) (hP (-11) _ _ _ _ hG trivial)
        by_cases w42 : x3.toInt = 2
        ·
          refine ko_eq (x1 := (29, [(6, .ref 104), (0, .ref 0), (1, .int x1), (2, .int x2), (3, .int x3), (4, .int x4), (5, .int x5)], [.int 2, .ref 97], (0, 0), ks i a q r)) (by rw [(kj_eq w42 (by decide) : x3 = 2)]) ?_
          have fi_6656 : ((0 : Int) ≤ (i 6656).toInt) ∧ ((i 6656).toInt ≤ 2) := hG.I.1 6656
          first | refine ft_go mi_k117 4 37 [(7, .ref 108), (6, .ref 104), (0, .ref 0), (1, .int x1), (2, .int x2), (3, .int x3), (4, .int x4), (5, .int x5)] [.int (i 6656)] i a q r (by rfl) ?_ | refine ko_steps mi_in117 4 _ (37, [(7, .ref 108), (6, .ref 104), (0, .ref 0), (1, .int x1), (2, .int x2), (3, .int x3), (4, .int x4), (5, .int x5)], [.int (i 6656)], (0, 0), ks i a q r) (by rfl) ?_
          refine ft_if mi_k117 ((i 6656) == 0) 48 40 [(7, .ref 108), (6, .ref 104), (0, .ref 0), (1, .int x1), (2, .int x2), (3, .int x3), (4, .int x4), (5, .int x5)] [] (by rfl) (fun c => ?_) (fun c => ?_)
          ·
            have c43 : (i 6656).toInt = (0 : Int32).toInt := kd_eq c; clear c
            first | refine ft_go mi_k117 1 50 [(7, .ref 108), (6, .ref 104), (0, .ref 0), (1, .int x1), (2, .int x2), (3, .int x3), (4, .int x4), (5, .int x5)] [.int (-11)] i a q r (by rfl) ?_ | refine ko_steps mi_in117 1 _ (50, [(7, .ref 108), (6, .ref 104), (0, .ref 0), (1, .int x1), (2, .int x2), (3, .int x3), (4, .int x4), (5, .int x5)], [.int (-11)], (0, 0), ks i a q r) (by rfl) ?_
            exact ft_ret mi_k117 (by rfl) (hP (-11) _ _ _ _ hG trivial)
          ·
            have c44 : (i 6656).toInt ≠ (0 : Int32).toInt := kd_eqF c; clear c
            have fi_6912 : ((0 : Int) ≤ (i 6912).toInt) ∧ ((i 6912).toInt ≤ 2) := hG.I.1 6912
            first | refine ft_go mi_k117 2 45 [(7, .ref 108), (6, .ref 104), (0, .ref 0), (1, .int x1), (2, .int x2), (3, .int x3), (4, .int x4), (5, .int x5)] [.int (i 6912)] i a q r (by rfl) ?_ | refine ko_steps mi_in117 2 _ (45, [(7, .ref 108), (6, .ref 104), (0, .ref 0), (1, .int x1), (2, .int x2), (3, .int x3), (4, .int x4), (5, .int x5)], [.int (i 6912)], (0, 0), ks i a q r) (by rfl) ?_
            refine ft_if mi_k117 ((i 6912) != 0) 51 48 [(7, .ref 108), (6, .ref 104), (0, .ref 0), (1, .int x1), (2, .int x2), (3, .int x3), (4, .int x4), (5, .int x5)] [] (by rfl) (fun c => ?_) (fun c => ?_)
            ·
              have c45 : (i 6912).toInt ≠ (0 : Int32).toInt := kd_ne c; clear c
              first | refine ft_go mi_k117 3 57 [(7, .ref 108), (6, .ref 104), (0, .ref 0), (1, .int x1), (2, .int x2), (3, .int x3), (4, .int x4), (5, .int x5)] [.int 2, .int (i 6656)] i a q r (by rfl) ?_ | refine ko_steps mi_in117 3 _ (57, [(7, .ref 108), (6, .ref 104), (0, .ref 0), (1, .int x1), (2, .int x2), (3, .int x3), (4, .int x4), (5, .int x5)], [.int 2, .int (i 6656)], (0, 0), ks i a q r) (by rfl) ?_
              refine ft_if mi_k117 ((i 6656) != 2) 82 60 [(7, .ref 108), (6, .ref 104), (0, .ref 0), (1, .int x1), (2, .int x2), (3, .int x3), (4, .int x4), (5, .int x5)] [] (by rfl) (fun c => ?_) (fun c => ?_)
              ·
                have c46 : (i 6656).toInt ≠ (2 : Int32).toInt := kd_ne c; clear c
                first | refine ft_go mi_k117 1 84 [(7, .ref 108), (6, .ref 104), (0, .ref 0), (1, .int x1), (2, .int x2), (3, .int x3), (4, .int x4), (5, .int x5)] [.int (-12)] i a q r (by rfl) ?_ | refine ko_steps mi_in117 1 _ (84, [(7, .ref 108), (6, .ref 104), (0, .ref 0), (1, .int x1), (2, .int x2), (3, .int x3), (4, .int x4), (5, .int x5)], [.int (-12)], (0, 0), ks i a q r) (by rfl) ?_
                exact ft_ret mi_k117 (by rfl) (hP (-12) _ _ _ _ hG trivial)
              ·
                have c47 : (i 6656).toInt = (2 : Int32).toInt := kd_neF c; clear c
                first | refine ft_go mi_k117 3 66 [(7, .ref 108), (6, .ref 104), (0, .ref 0), (1, .int x1), (2, .int x2), (3, .int x3), (4, .int x4), (5, .int x5)] [.int 2, .int (i 6912)] i a q r (by rfl) ?_ | refine ko_steps mi_in117 3 _ (66, [(7, .ref 108), (6, .ref 104), (0, .ref 0), (1, .int x1), (2, .int x2), (3, .int x3), (4, .int x4), (5, .int x5)], [.int 2, .int (i 6912)], (0, 0), ks i a q r) (by rfl) ?_
                refine ft_if mi_k117 ((i 6912) != 2) 82 69 [(7, .ref 108), (6, .ref 104), (0, .ref 0), (1, .int x1), (2, .int x2), (3, .int x3), (4, .int x4), (5, .int x5)] [] (by rfl) (fun c => ?_) (fun c => ?_)
                ·
                  have c48 : (i 6912).toInt ≠ (2 : Int32).toInt := kd_ne c; clear c
                  first | refine ft_go mi_k117 1 84 [(7, .ref 108), (6, .ref 104), (0, .ref 0), (1, .int x1), (2, .int x2), (3, .int x3), (4, .int x4), (5, .int x5)] [.int (-12)] i a q r (by rfl) ?_ | refine ko_steps mi_in117 1 _ (84, [(7, .ref 108), (6, .ref 104), (0, .ref 0), (1, .int x1), (2, .int x2), (3, .int x3), (4, .int x4), (5, .int x5)], [.int (-12)], (0, 0), ks i a q r) (by rfl) ?_
                  exact ft_ret mi_k117 (by rfl) (hP (-12) _ _ _ _ hG trivial)
                ·
                  have c49 : (i 6912).toInt = (2 : Int32).toInt := kd_neF c; clear c
                  have fi_6658 : ((0 : Int) ≤ (i 6658).toInt) ∧ ((i 6658).toInt ≤ 4) := hG.I.1 6658
                  have fi_6914 : ((0 : Int) ≤ (i 6914).toInt) ∧ ((i 6914).toInt ≤ 4) := hG.I.1 6914
                  first | refine ft_go mi_k117 4 79 [(7, .ref 108), (6, .ref 104), (0, .ref 0), (1, .int x1), (2, .int x2), (3, .int x3), (4, .int x4), (5, .int x5)] [.int (i 6914), .int (i 6658)] i a q r (by rfl) ?_ | refine ko_steps mi_in117 4 _ (79, [(7, .ref 108), (6, .ref 104), (0, .ref 0), (1, .int x1), (2, .int x2), (3, .int x3), (4, .int x4), (5, .int x5)], [.int (i 6914), .int (i 6658)], (0, 0), ks i a q r) (by rfl) ?_
                  refine ft_if mi_k117 ((i 6658) == (i 6914)) 85 82 [(7, .ref 108), (6, .ref 104), (0, .ref 0), (1, .int x1), (2, .int x2), (3, .int x3), (4, .int x4), (5, .int x5)] [] (by rfl) (fun c => ?_) (fun c => ?_)
                  ·
                    have c50 : (i 6658).toInt = (i 6914).toInt := kd_eq c; clear c
                    first | refine ft_go mi_k117 3 90 [(7, .ref 108), (6, .ref 104), (0, .ref 0), (1, .int x1), (2, .int x2), (3, .int x3), (4, .int x4), (5, .int x5)] [.int x5, .int x2, .ref 104] i a q r (by rfl) ?_ | refine ko_steps mi_in117 3 _ (90, [(7, .ref 108), (6, .ref 104), (0, .ref 0), (1, .int x1), (2, .int x2), (3, .int x3), (4, .int x4), (5, .int x5)], [.int x5, .int x2, .ref 104], (0, 0), ks i a q r) (by rfl) ?_
                    refine ko_callPI mi_k117.1 (pc := 90) (ls := [(7, .ref 108), (6, .ref 104), (0, .ref 0), (1, .int x1), (2, .int x2), (3, .int x3), (4, .int x4), (5, .int x5)]) (st := [.int x5, .int x2, .ref 104]) (h := ks i a q r) (i := (.invokevirtual 324, 3, 37, 0, 9, 0, 316)) (mi_k117.2 _ _ (by rfl)) (ft_invS mi_pq37 (by rfl)) (cy := mi_c37) mi_pq37 rfl (kc37_104 hG.I hG.R x2 x5) (by decide) ?_
                    intro vg51 hg51
                    rcases hg51 with ⟨eg51, hg51⟩ | ⟨eg51, hg51⟩
                    ·
                      subst eg51
                      have fi_6659 : ((0 : Int) ≤ (i 6659).toInt) ∧ ((i 6659).toInt ≤ 60) := hG.I.1 6659
                      have z52 : ((0 : Int) ≤ x5.toInt) ∧ (x5.toInt ≤ (i 6659).toInt) ∧ ((0 : Int) ≤ x2.toInt) ∧ ((x2.toInt + x5.toInt) ≤ (i 6659).toInt) := hg51
                      first | refine ft_go mi_k117 4 102 [(7, .ref 108), (6, .ref 104), (0, .ref 0), (1, .int x1), (2, .int x2), (3, .int x3), (4, .int x4), (5, .int x5)] [.int x5, .int x4, .ref 108] i a q r (by rfl) ?_ | refine ko_steps mi_in117 4 _ (102, [(7, .ref 108), (6, .ref 104), (0, .ref 0), (1, .int x1), (2, .int x2), (3, .int x3), (4, .int x4), (5, .int x5)], [.int x5, .int x4, .ref 108], (0, 0), ks i a q r) (by rfl) ?_
                      refine ko_callPI mi_k117.1 (pc := 102) (ls := [(7, .ref 108), (6, .ref 104), (0, .ref 0), (1, .int x1), (2, .int x2), (3, .int x3), (4, .int x4), (5, .int x5)]) (st := [.int x5, .int x4, .ref 108]) (h := ks i a q r) (i := (.invokevirtual 324, 3, 37, 0, 9, 0, 316)) (mi_k117.2 _ _ (by rfl)) (ft_invS mi_pq37 (by rfl)) (cy := mi_c37) mi_pq37 rfl (kc37_108 hG.I hG.R x4 x5) (by decide) ?_
                      intro vg53 hg53
                      rcases hg53 with ⟨eg53, hg53⟩ | ⟨eg53, hg53⟩
                      ·
                        subst eg53
                        have fi_6915 : ((0 : Int) ≤ (i 6915).toInt) ∧ ((i 6915).toInt ≤ 60) := hG.I.1 6915
                        have z54 : ((0 : Int) ≤ x5.toInt) ∧ (x5.toInt ≤ (i 6915).toInt) ∧ ((0 : Int) ≤ x4.toInt) ∧ ((x4.toInt + x5.toInt) ≤ (i 6915).toInt) := hg53
                        first | refine ft_go mi_k117 8 126 [(7, .ref 108), (6, .ref 104), (0, .ref 0), (1, .int x1), (2, .int x2), (3, .int x3), (4, .int x4), (5, .int x5)] [.int x5, .int x4, .ref 109, .int x2, .ref 105] i a q r (by rfl) ?_ | refine ko_steps mi_in117 8 _ (126, [(7, .ref 108), (6, .ref 104), (0, .ref 0), (1, .int x1), (2, .int x2), (3, .int x3), (4, .int x4), (5, .int x5)], [.int x5, .int x4, .ref 109, .int x2, .ref 105], (0, 0), ks i a q r) (by rfl) ?_
                        have hJ55 := kG_q hG 109 rfl (z := mi_cpy (q 105) (q 109) x2.toNatClampNeg x4.toNatClampNeg x5.toNatClampNeg) (kcpy_len2 (n := 60) (c := 60) (m := 60) (b := 60) (sp := x2) (dp := x4) (n1 := x5) (hG.I.2.2.2 105) rfl (hG.I.2.2.2 109) rfl (oz3 z52.1) (oz3 z52.2.2.1) (oz3 z54.2.2.1) (oz1278 fi_6659.2 z52.2.2.2) (oz1278 fi_6915.2 z54.2.2.2))
                        refine ko_copyL2 mi_k117.1 (l := q 105) (g := q 109) (n := 60) (c := 60) (m := 60) (b := 60) (mi_k117.2 _ _ (by rfl)) (by rfl) (by rfl) (by rfl) (by rfl) (by rfl) (hG.I.2.2.2 105) rfl (hG.I.2.2.2 109) rfl (oz3 z52.1) (oz3 z52.2.2.1) (oz3 z54.2.2.1) (oz1278 fi_6659.2 z52.2.2.2) (oz1278 fi_6915.2 z54.2.2.2) (h5 := ks i a (ku q 109 (mi_cpy (q 105) (q 109) x2.toNatClampNeg x4.toNatClampNeg x5.toNatClampNeg)) r) (by rfl) ?_
                        first | refine ft_go mi_k117 1 131 [(7, .ref 108), (6, .ref 104), (0, .ref 0), (1, .int x1), (2, .int x2), (3, .int x3), (4, .int x4), (5, .int x5)] [.int x5] i a (ku q 109 (mi_cpy (q 105) (q 109) x2.toNatClampNeg x4.toNatClampNeg x5.toNatClampNeg)) r (by rfl) ?_ | refine ko_steps mi_in117 1 _ (131, [(7, .ref 108), (6, .ref 104), (0, .ref 0), (1, .int x1), (2, .int x2), (3, .int x3), (4, .int x4), (5, .int x5)], [.int x5], (0, 0), ks i a (ku q 109 (mi_cpy (q 105) (q 109) x2.toNatClampNeg x4.toNatClampNeg x5.toNatClampNeg)) r) (by rfl) ?_
                        exact ft_ret mi_k117 (by rfl) (hP x5 _ _ _ _ hJ55 trivial)
                      ·
                        subst eg53
                        have fi_6915 : ((0 : Int) ≤ (i 6915).toInt) ∧ ((i 6915).toInt ≤ 60) := hG.I.1 6915
                        have z56 : ¬ (((0 : Int) ≤ x5.toInt) ∧ (x5.toInt ≤ (i 6915).toInt) ∧ ((0 : Int) ≤ x4.toInt) ∧ ((x4.toInt + x5.toInt) ≤ (i 6915).toInt)) := hg53
                        first | refine ft_go mi_k117 2 110 [(7, .ref 108), (6, .ref 104), (0, .ref 0), (1, .int x1), (2, .int x2), (3, .int x3), (4, .int x4), (5, .int x5)] [.int (-13)] i a q r (by rfl) ?_ | refine ko_steps mi_in117 2 _ (110, [(7, .ref 108), (6, .ref 104), (0, .ref 0), (1, .int x1), (2, .int x2), (3, .int x3), (4, .int x4), (5, .int x5)], [.int (-13)], (0, 0), ks i a q r) (by rfl) ?_
                        exact ft_ret mi_k117 (by rfl) (hP (-13) _ _ _ _ hG trivial)
                    ·
                      subst eg51
                      have fi_6659 : ((0 : Int) ≤ (i 6659).toInt) ∧ ((i 6659).toInt ≤ 60) := hG.I.1 6659
                      have z57 : ¬ (((0 : Int) ≤ x5.toInt) ∧ (x5.toInt ≤ (i 6659).toInt) ∧ ((0 : Int) ≤ x2.toInt) ∧ ((x2.toInt + x5.toInt) ≤ (i 6659).toInt)) := hg51
                      first | refine ft_go mi_k117 2 110 [(7, .ref 108), (6, .ref 104), (0, .ref 0), (1, .int x1), (2, .int x2), (3, .int x3), (4, .int x4), (5, .int x5)] [.int (-13)] i a q r (by rfl) ?_ | refine ko_steps mi_in117 2 _ (110, [(7, .ref 108), (6, .ref 104), (0, .ref 0), (1, .int x1), (2, .int x2), (3, .int x3), (4, .int x4), (5, .int x5)], [.int (-13)], (0, 0), ks i a q r) (by rfl) ?_
                      exact ft_ret mi_k117 (by rfl) (hP (-13) _ _ _ _ hG trivial)
                  ·
                    have c58 : (i 6658).toInt ≠ (i 6914).toInt := kd_eqF c; clear c
                    first | refine ft_go mi_k117 1 84 [(7, .ref 108), (6, .ref 104), (0, .ref 0), (1, .int x1), (2, .int x2), (3, .int x3), (4, .int x4), (5, .int x5)] [.int (-12)] i a q r (by rfl) ?_ | refine ko_steps mi_in117 1 _ (84, [(7, .ref 108), (6, .ref 104), (0, .ref 0), (1, .int x1), (2, .int x2), (3, .int x3), (4, .int x4), (5, .int x5)], [.int (-12)], (0, 0), ks i a q r) (by rfl) ?_
                    exact ft_ret mi_k117 (by rfl) (hP (-12) _ _ _ _ hG trivial)
            ·
              have c59 : (i 6912).toInt = (0 : Int32).toInt := kd_neF c; clear c
              first | refine ft_go mi_k117 1 50 [(7, .ref 108), (6, .ref 104), (0, .ref 0), (1, .int x1), (2, .int x2), (3, .int x3), (4, .int x4), (5, .int x5)] [.int (-11)] i a q r (by rfl) ?_ | refine ko_steps mi_in117 1 _ (50, [(7, .ref 108), (6, .ref 104), (0, .ref 0), (1, .int x1), (2, .int x2), (3, .int x3), (4, .int x4), (5, .int x5)], [.int (-11)], (0, 0), ks i a q r) (by rfl) ?_
              exact ft_ret mi_k117 (by rfl) (hP (-11) _ _ _ _ hG trivial)
        by_cases w60 : x3.toInt = 3
        ·
          refine ko_eq (x1 := (29, [(6, .ref 104), (0, .ref 0), (1, .int x1), (2, .int x2), (3, .int x3), (4, .int x4), (5, .int x5)], [.int 3, .ref 97], (0, 0), ks i a q r)) (by rw [(kj_eq w60 (by decide) : x3 = 3)]) ?_
          have fi_6656 : ((0 : Int) ≤ (i 6656).toInt) ∧ ((i 6656).toInt ≤ 2) := hG.I.1 6656
          first | refine ft_go mi_k117 4 37 [(7, .ref 110), (6, .ref 104), (0, .ref 0), (1, .int x1), (2, .int x2), (3, .int x3), (4, .int x4), (5, .int x5)] [.int (i 6656)] i a q r (by rfl) ?_ | refine ko_steps mi_in117 4 _ (37, [(7, .ref 110), (6, .ref 104), (0, .ref 0), (1, .int x1), (2, .int x2), (3, .int x3), (4, .int x4), (5, .int x5)], [.int (i 6656)], (0, 0), ks i a q r) (by rfl) ?_
          refine ft_if mi_k117 ((i 6656) == 0) 48 40 [(7, .ref 110), (6, .ref 104), (0, .ref 0), (1, .int x1), (2, .int x2), (3, .int x3), (4, .int x4), (5, .int x5)] [] (by rfl) (fun c => ?_) (fun c => ?_)
          ·
            have c61 : (i 6656).toInt = (0 : Int32).toInt := kd_eq c; clear c
            first | refine ft_go mi_k117 1 50 [(7, .ref 110), (6, .ref 104), (0, .ref 0), (1, .int x1), (2, .int x2), (3, .int x3), (4, .int x4), (5, .int x5)] [.int (-11)] i a q r (by rfl) ?_ | refine ko_steps mi_in117 1 _ (50, [(7, .ref 110), (6, .ref 104), (0, .ref 0), (1, .int x1), (2, .int x2), (3, .int x3), (4, .int x4), (5, .int x5)], [.int (-11)], (0, 0), ks i a q r) (by rfl) ?_
            exact ft_ret mi_k117 (by rfl) (hP (-11) _ _ _ _ hG trivial)
          ·
            have c62 : (i 6656).toInt ≠ (0 : Int32).toInt := kd_eqF c; clear c
            have fi_7040 : ((0 : Int) ≤ (i 7040).toInt) ∧ ((i 7040).toInt ≤ 2) := hG.I.1 7040
            first | refine ft_go mi_k117 2 45 [(7, .ref 110), (6, .ref 104), (0, .ref 0), (1, .int x1), (2, .int x2), (3, .int x3), (4, .int x4), (5, .int x5)] [.int (i 7040)] i a q r (by rfl) ?_ | refine ko_steps mi_in117 2 _ (45, [(7, .ref 110), (6, .ref 104), (0, .ref 0), (1, .int x1), (2, .int x2), (3, .int x3), (4, .int x4), (5, .int x5)], [.int (i 7040)], (0, 0), ks i a q r) (by rfl) ?_
            refine ft_if mi_k117 ((i 7040) != 0) 51 48 [(7, .ref 110), (6, .ref 104), (0, .ref 0), (1, .int x1), (2, .int x2), (3, .int x3), (4, .int x4), (5, .int x5)] [] (by rfl) (fun c => ?_) (fun c => ?_)
            ·
              have c63 : (i 7040).toInt ≠ (0 : Int32).toInt := kd_ne c; clear c
              first | refine ft_go mi_k117 3 57 [(7, .ref 110), (6, .ref 104), (0, .ref 0), (1, .int x1), (2, .int x2), (3, .int x3), (4, .int x4), (5, .int x5)] [.int 2, .int (i 6656)] i a q r (by rfl) ?_ | refine ko_steps mi_in117 3 _ (57, [(7, .ref 110), (6, .ref 104), (0, .ref 0), (1, .int x1), (2, .int x2), (3, .int x3), (4, .int x4), (5, .int x5)], [.int 2, .int (i 6656)], (0, 0), ks i a q r) (by rfl) ?_
              refine ft_if mi_k117 ((i 6656) != 2) 82 60 [(7, .ref 110), (6, .ref 104), (0, .ref 0), (1, .int x1), (2, .int x2), (3, .int x3), (4, .int x4), (5, .int x5)] [] (by rfl) (fun c => ?_) (fun c => ?_)
              ·
                have c64 : (i 6656).toInt ≠ (2 : Int32).toInt := kd_ne c; clear c
                first | refine ft_go mi_k117 1 84 [(7, .ref 110), (6, .ref 104), (0, .ref 0), (1, .int x1), (2, .int x2), (3, .int x3), (4, .int x4), (5, .int x5)] [.int (-12)] i a q r (by rfl) ?_ | refine ko_steps mi_in117 1 _ (84, [(7, .ref 110), (6, .ref 104), (0, .ref 0), (1, .int x1), (2, .int x2), (3, .int x3), (4, .int x4), (5, .int x5)], [.int (-12)], (0, 0), ks i a q r) (by rfl) ?_
                exact ft_ret mi_k117 (by rfl) (hP (-12) _ _ _ _ hG trivial)
              ·
                have c65 : (i 6656).toInt = (2 : Int32).toInt := kd_neF c; clear c
                first | refine ft_go mi_k117 3 66 [(7, .ref 110), (6, .ref 104), (0, .ref 0), (1, .int x1), (2, .int x2), (3, .int x3), (4, .int x4), (5, .int x5)] [.int 2, .int (i 7040)] i a q r (by rfl) ?_ | refine ko_steps mi_in117 3 _ (66, [(7, .ref 110), (6, .ref 104), (0, .ref 0), (1, .int x1), (2, .int x2), (3, .int x3), (4, .int x4), (5, .int x5)], [.int 2, .int (i 7040)], (0, 0), ks i a q r) (by rfl) ?_
                refine ft_if mi_k117 ((i 7040) != 2) 82 69 [(7, .ref 110), (6, .ref 104), (0, .ref 0), (1, .int x1), (2, .int x2), (3, .int x3), (4, .int x4), (5, .int x5)] [] (by rfl) (fun c => ?_) (fun c => ?_)
                ·
                  have c66 : (i 7040).toInt ≠ (2 : Int32).toInt := kd_ne c; clear c
                  first | refine ft_go mi_k117 1 84 [(7, .ref 110), (6, .ref 104), (0, .ref 0), (1, .int x1), (2, .int x2), (3, .int x3), (4, .int x4), (5, .int x5)] [.int (-12)] i a q r (by rfl) ?_ | refine ko_steps mi_in117 1 _ (84, [(7, .ref 110), (6, .ref 104), (0, .ref 0), (1, .int x1), (2, .int x2), (3, .int x3), (4, .int x4), (5, .int x5)], [.int (-12)], (0, 0), ks i a q r) (by rfl) ?_
                  exact ft_ret mi_k117 (by rfl) (hP (-12) _ _ _ _ hG trivial)
                ·
                  have c67 : (i 7040).toInt = (2 : Int32).toInt := kd_neF c; clear c
                  have fi_6658 : ((0 : Int) ≤ (i 6658).toInt) ∧ ((i 6658).toInt ≤ 4) := hG.I.1 6658
                  have fi_7042 : ((0 : Int) ≤ (i 7042).toInt) ∧ ((i 7042).toInt ≤ 4) := hG.I.1 7042
                  first | refine ft_go mi_k117 4 79 [(7, .ref 110), (6, .ref 104), (0, .ref 0), (1, .int x1), (2, .int x2), (3, .int x3), (4, .int x4), (5, .int x5)] [.int (i 7042), .int (i 6658)] i a q r (by rfl) ?_ | refine ko_steps mi_in117 4 _ (79, [(7, .ref 110), (6, .ref 104), (0, .ref 0), (1, .int x1), (2, .int x2), (3, .int x3), (4, .int x4), (5, .int x5)], [.int (i 7042), .int (i 6658)], (0, 0), ks i a q r) (by rfl) ?_
                  refine ft_if mi_k117 ((i 6658) == (i 7042)) 85 82 [(7, .ref 110), (6, .ref 104), (0, .ref 0), (1, .int x1), (2, .int x2), (3, .int x3), (4, .int x4), (5, .int x5)] [] (by rfl) (fun c => ?_) (fun c => ?_)
                  ·
                    have c68 : (i 6658).toInt = (i 7042).toInt := kd_eq c; clear c
                    first | refine ft_go mi_k117 3 90 [(7, .ref 110), (6, .ref 104), (0, .ref 0), (1, .int x1), (2, .int x2), (3, .int x3), (4, .int x4), (5, .int x5)] [.int x5, .int x2, .ref 104] i a q r (by rfl) ?_ | refine ko_steps mi_in117 3 _ (90, [(7, .ref 110), (6, .ref 104), (0, .ref 0), (1, .int x1), (2, .int x2), (3, .int x3), (4, .int x4), (5, .int x5)], [.int x5, .int x2, .ref 104], (0, 0), ks i a q r) (by rfl) ?_
                    refine ko_callPI mi_k117.1 (pc := 90) (ls := [(7, .ref 110), (6, .ref 104), (0, .ref 0), (1, .int x1), (2, .int x2), (3, .int x3), (4, .int x4), (5, .int x5)]) (st := [.int x5, .int x2, .ref 104]) (h := ks i a q r) (i := (.invokevirtual 324, 3, 37, 0, 9, 0, 316)) (mi_k117.2 _ _ (by rfl)) (ft_invS mi_pq37 (by rfl)) (cy := mi_c37) mi_pq37 rfl (kc37_104 hG.I hG.R x2 x5) (by decide) ?_
                    intro vg69 hg69
                    rcases hg69 with ⟨eg69, hg69⟩ | ⟨eg69, hg69⟩
                    ·
                      subst eg69
                      have fi_6659 : ((0 : Int) ≤ (i 6659).toInt) ∧ ((i 6659).toInt ≤ 60) := hG.I.1 6659
                      have z70 : ((0 : Int) ≤ x5.toInt) ∧ (x5.toInt ≤ (i 6659).toInt) ∧ ((0 : Int) ≤ x2.toInt) ∧ ((x2.toInt + x5.toInt) ≤ (i 6659).toInt) := hg69
                      first | refine ft_go mi_k117 4 102 [(7, .ref 110), (6, .ref 104), (0, .ref 0), (1, .int x1), (2, .int x2), (3, .int x3), (4, .int x4), (5, .int x5)] [.int x5, .int x4, .ref 110] i a q r (by rfl) ?_ | refine ko_steps mi_in117 4 _ (102, [(7, .ref 110), (6, .ref 104), (0, .ref 0), (1, .int x1), (2, .int x2), (3, .int x3), (4, .int x4), (5, .int x5)], [.int x5, .int x4, .ref 110], (0, 0), ks i a q r) (by rfl) ?_
                      refine ko_callPI mi_k117.1 (pc := 102) (ls := [(7, .ref 110), (6, .ref 104), (0, .ref 0), (1, .int x1), (2, .int x2), (3, .int x3), (4, .int x4), (5, .int x5)]) (st := [.int x5, .int x4, .ref 110]) (h := ks i a q r) (i := (.invokevirtual 324, 3, 37, 0, 9, 0, 316)) (mi_k117.2 _ _ (by rfl)) (ft_invS mi_pq37 (by rfl)) (cy := mi_c37) mi_pq37 rfl (kc37_110 hG.I hG.R x4 x5) (by decide) ?_
                      intro vg71 hg71
                      rcases hg71 with ⟨eg71, hg71⟩ | ⟨eg71, hg71⟩
                      ·
                        subst eg71
                        have fi_7043 : ((0 : Int) ≤ (i 7043).toInt) ∧ ((i 7043).toInt ≤ 60) := hG.I.1 7043
                        have z72 : ((0 : Int) ≤ x5.toInt) ∧ (x5.toInt ≤ (i 7043).toInt) ∧ ((0 : Int) ≤ x4.toInt) ∧ ((x4.toInt + x5.toInt) ≤ (i 7043).toInt) := hg71
                        first | refine ft_go mi_k117 8 126 [(7, .ref 110), (6, .ref 104), (0, .ref 0), (1, .int x1), (2, .int x2), (3, .int x3), (4, .int x4), (5, .int x5)] [.int x5, .int x4, .ref 111, .int x2, .ref 105] i a q r (by rfl) ?_ | refine ko_steps mi_in117 8 _ (126, [(7, .ref 110), (6, .ref 104), (0, .ref 0), (1, .int x1), (2, .int x2), (3, .int x3), (4, .int x4), (5, .int x5)], [.int x5, .int x4, .ref 111, .int x2, .ref 105], (0, 0), ks i a q r) (by rfl) ?_
                        have hJ73 := kG_q hG 111 rfl (z := mi_cpy (q 105) (q 111) x2.toNatClampNeg x4.toNatClampNeg x5.toNatClampNeg) (kcpy_len2 (n := 60) (c := 60) (m := 60) (b := 60) (sp := x2) (dp := x4) (n1 := x5) (hG.I.2.2.2 105) rfl (hG.I.2.2.2 111) rfl (oz3 z70.1) (oz3 z70.2.2.1) (oz3 z72.2.2.1) (oz1278 fi_6659.2 z70.2.2.2) (oz1278 fi_7043.2 z72.2.2.2))
                        refine ko_copyL2 mi_k117.1 (l := q 105) (g := q 111) (n := 60) (c := 60) (m := 60) (b := 60) (mi_k117.2 _ _ (by rfl)) (by rfl) (by rfl) (by rfl) (by rfl) (by rfl) (hG.I.2.2.2 105) rfl (hG.I.2.2.2 111) rfl (oz3 z70.1) (oz3 z70.2.2.1) (oz3 z72.2.2.1) (oz1278 fi_6659.2 z70.2.2.2) (oz1278 fi_7043.2 z72.2.2.2) (h5 := ks i a (ku q 111 (mi_cpy (q 105) (q 111) x2.toNatClampNeg x4.toNatClampNeg x5.toNatClampNeg)) r) (by rfl) ?_
                        first | refine ft_go mi_k117 1 131 [(7, .ref 110), (6, .ref 104), (0, .ref 0), (1, .int x1), (2, .int x2), (3, .int x3), (4, .int x4), (5, .int x5)] [.int x5] i a (ku q 111 (mi_cpy (q 105) (q 111) x2.toNatClampNeg x4.toNatClampNeg x5.toNatClampNeg)) r (by rfl) ?_ | refine ko_steps mi_in117 1 _ (131, [(7, .ref 110), (6, .ref 104), (0, .ref 0), (1, .int x1), (2, .int x2), (3, .int x3), (4, .int x4), (5, .int x5)], [.int x5], (0, 0), ks i a (ku q 111 (mi_cpy (q 105) (q 111) x2.toNatClampNeg x4.toNatClampNeg x5.toNatClampNeg)) r) (by rfl) ?_
                        exact ft_ret mi_k117 (by rfl) (hP x5 _ _ _ _ hJ73 trivial)
                      ·
                        subst eg71
                        have fi_7043 : ((0 : Int) ≤ (i 7043).toInt) ∧ ((i 7043).toInt ≤ 60) := hG.I.1 7043
                        have z74 : ¬ (((0 : Int) ≤ x5.toInt) ∧ (x5.toInt ≤ (i 7043).toInt) ∧ ((0 : Int) ≤ x4.toInt) ∧ ((x4.toInt + x5.toInt) ≤ (i 7043).toInt)) := hg71
                        first | refine ft_go mi_k117 2 110 [(7, .ref 110), (6, .ref 104), (0, .ref 0), (1, .int x1), (2, .int x2), (3, .int x3), (4, .int x4), (5, .int x5)] [.int (-13)] i a q r (by rfl) ?_ | refine ko_steps mi_in117 2 _ (110, [(7, .ref 110), (6, .ref 104), (0, .ref 0), (1, .int x1), (2, .int x2), (3, .int x3), (4, .int x4), (5, .int x5)], [.int (-13)], (0, 0), ks i a q r) (by rfl) ?_
                        exact ft_ret mi_k117 (by rfl) (hP (-13) _ _ _ _ hG trivial)
                    ·
                      subst eg69
                      have fi_6659 : ((0 : Int) ≤ (i 6659).toInt) ∧ ((i 6659).toInt ≤ 60) := hG.I.1 6659
                      have z75 : ¬ (((0 : Int) ≤ x5.toInt) ∧ (x5.toInt ≤ (i 6659).toInt) ∧ ((0 : Int) ≤ x2.toInt) ∧ ((x2.toInt + x5.toInt) ≤ (i 6659).toInt)) := hg69
                      first | refine ft_go mi_k117 2 110 [(7, .ref 110), (6, .ref 104), (0, .ref 0), (1, .int x1), (2, .int x2), (3, .int x3), (4, .int x4), (5, .int x5)] [.int (-13)] i a q r (by rfl) ?_ | refine ko_steps mi_in117 2 _ (110, [(7, .ref 110), (6, .ref 104), (0, .ref 0), (1, .int x1), (2, .int x2), (3, .int x3), (4, .int x4), (5, .int x5)], [.int (-13)], (0, 0), ks i a q r) (by rfl) ?_
                      exact ft_ret mi_k117 (by rfl) (hP (-13) _ _ _ _ hG trivial)
                  ·
                    have c76 : (i 6658).toInt ≠ (i 7042).toInt := kd_eqF c; clear c
                    first | refine ft_go mi_k117 1 84 [(7, .ref 110), (6, .ref 104), (0, .ref 0), (1, .int x1), (2, .int x2), (3, .int x3), (4, .int x4), (5, .int x5)] [.int (-12)] i a q r (by rfl) ?_ | refine ko_steps mi_in117 1 _ (84, [(7, .ref 110), (6, .ref 104), (0, .ref 0), (1, .int x1), (2, .int x2), (3, .int x3), (4, .int x4), (5, .int x5)], [.int (-12)], (0, 0), ks i a q r) (by rfl) ?_
                    exact ft_ret mi_k117 (by rfl) (hP (-12) _ _ _ _ hG trivial)
            ·
              have c77 : (i 7040).toInt = (0 : Int32).toInt := kd_neF c; clear c
              first | refine ft_go mi_k117 1 50 [(7, .ref 110), (6, .ref 104), (0, .ref 0), (1, .int x1), (2, .int x2), (3, .int x3), (4, .int x4), (5, .int x5)] [.int (-11)] i a q r (by rfl) ?_ | refine ko_steps mi_in117 1 _ (50, [(7, .ref 110), (6, .ref 104), (0, .ref 0), (1, .int x1), (2, .int x2), (3, .int x3), (4, .int x4), (5, .int x5)], [.int (-11)], (0, 0), ks i a q r) (by rfl) ?_
              exact ft_ret mi_k117 (by rfl) (hP (-11) _ _ _ _ hG trivial)
        by_cases w78 : x3.toInt = 4
        ·
          refine ko_eq (x1 := (29, [(6, .ref 104), (0, .ref 0), (1, .int x1), (2, .int x2), (3, .int x3), (4, .int x4), (5, .int x5)], [.int 4, .ref 97], (0, 0), ks i a q r)) (by rw [(kj_eq w78 (by decide) : x3 = 4)]) ?_
          have fi_6656 : ((0 : Int) ≤ (i 6656).toInt) ∧ ((i 6656).toInt ≤ 2) := hG.I.1 6656
          first | refine ft_go mi_k117 4 37 [(7, .ref 112), (6, .ref 104), (0, .ref 0), (1, .int x1), (2, .int x2), (3, .int x3), (4, .int x4), (5, .int x5)] [.int (i 6656)] i a q r (by rfl) ?_ | refine ko_steps mi_in117 4 _ (37, [(7, .ref 112), (6, .ref 104), (0, .ref 0), (1, .int x1), (2, .int x2), (3, .int x3), (4, .int x4), (5, .int x5)], [.int (i 6656)], (0, 0), ks i a q r) (by rfl) ?_
          refine ft_if mi_k117 ((i 6656) == 0) 48 40 [(7, .ref 112), (6, .ref 104), (0, .ref 0), (1, .int x1), (2, .int x2), (3, .int x3), (4, .int x4), (5, .int x5)] [] (by rfl) (fun c => ?_) (fun c => ?_)
          ·
            have c79 : (i 6656).toInt = (0 : Int32).toInt := kd_eq c; clear c
            first | refine ft_go mi_k117 1 50 [(7, .ref 112), (6, .ref 104), (0, .ref 0), (1, .int x1), (2, .int x2), (3, .int x3), (4, .int x4), (5, .int x5)] [.int (-11)] i a q r (by rfl) ?_ | refine ko_steps mi_in117 1 _ (50, [(7, .ref 112), (6, .ref 104), (0, .ref 0), (1, .int x1), (2, .int x2), (3, .int x3), (4, .int x4), (5, .int x5)], [.int (-11)], (0, 0), ks i a q r) (by rfl) ?_
            exact ft_ret mi_k117 (by rfl) (hP (-11) _ _ _ _ hG trivial)
          ·
            have c80 : (i 6656).toInt ≠ (0 : Int32).toInt := kd_eqF c; clear c
            have fi_7168 : ((0 : Int) ≤ (i 7168).toInt) ∧ ((i 7168).toInt ≤ 2) := hG.I.1 7168
            first | refine ft_go mi_k117 2 45 [(7, .ref 112), (6, .ref 104), (0, .ref 0), (1, .int x1), (2, .int x2), (3, .int x3), (4, .int x4), (5, .int x5)] [.int (i 7168)] i a q r (by rfl) ?_ | refine ko_steps mi_in117 2 _ (45, [(7, .ref 112), (6, .ref 104), (0, .ref 0), (1, .int x1), (2, .int x2), (3, .int x3), (4, .int x4), (5, .int x5)], [.int (i 7168)], (0, 0), ks i a q r) (by rfl) ?_
            refine ft_if mi_k117 ((i 7168) != 0) 51 48 [(7, .ref 112), (6, .ref 104), (0, .ref 0), (1, .int x1), (2, .int x2), (3, .int x3), (4, .int x4), (5, .int x5)] [] (by rfl) (fun c => ?_) (fun c => ?_)
            ·
              have c81 : (i 7168).toInt ≠ (0 : Int32).toInt := kd_ne c; clear c
              first | refine ft_go mi_k117 3 57 [(7, .ref 112), (6, .ref 104), (0, .ref 0), (1, .int x1), (2, .int x2), (3, .int x3), (4, .int x4), (5, .int x5)] [.int 2, .int (i 6656)] i a q r (by rfl) ?_ | refine ko_steps mi_in117 3 _ (57, [(7, .ref 112), (6, .ref 104), (0, .ref 0), (1, .int x1), (2, .int x2), (3, .int x3), (4, .int x4), (5, .int x5)], [.int 2, .int (i 6656)], (0, 0), ks i a q r) (by rfl) ?_
              refine ft_if mi_k117 ((i 6656) != 2) 82 60 [(7, .ref 112), (6, .ref 104), (0, .ref 0), (1, .int x1), (2, .int x2), (3, .int x3), (4, .int x4), (5, .int x5)] [] (by rfl) (fun c => ?_) (fun c => ?_)
              ·
                have c82 : (i 6656).toInt ≠ (2 : Int32).toInt := kd_ne c; clear c
                first | refine ft_go mi_k117 1 84 [(7, .ref 112), (6, .ref 104), (0, .ref 0), (1, .int x1), (2, .int x2), (3, .int x3), (4, .int x4), (5, .int x5)] [.int (-12)] i a q r (by rfl) ?_ | refine ko_steps mi_in117 1 _ (84, [(7, .ref 112), (6, .ref 104), (0, .ref 0), (1, .int x1), (2, .int x2), (3, .int x3), (4, .int x4), (5, .int x5)], [.int (-12)], (0, 0), ks i a q r) (by rfl) ?_
                exact ft_ret mi_k117 (by rfl) (hP (-12) _ _ _ _ hG trivial)
              ·
                have c83 : (i 6656).toInt = (2 : Int32).toInt := kd_neF c; clear c
                first | refine ft_go mi_k117 3 66 [(7, .ref 112), (6, .ref 104), (0, .ref 0), (1, .int x1), (2, .int x2), (3, .int x3), (4, .int x4), (5, .int x5)] [.int 2, .int (i 7168)] i a q r (by rfl) ?_ | refine ko_steps mi_in117 3 _ (66, [(7, .ref 112), (6, .ref 104), (0, .ref 0), (1, .int x1), (2, .int x2), (3, .int x3), (4, .int x4), (5, .int x5)], [.int 2, .int (i 7168)], (0, 0), ks i a q r) (by rfl) ?_
                refine ft_if mi_k117 ((i 7168) != 2) 82 69 [(7, .ref 112), (6, .ref 104), (0, .ref 0), (1, .int x1), (2, .int x2), (3, .int x3), (4, .int x4), (5, .int x5)] [] (by rfl) (fun c => ?_) (fun c => ?_)
                ·
                  have c84 : (i 7168).toInt ≠ (2 : Int32).toInt := kd_ne c; clear c
                  first | refine ft_go mi_k117 1 84 [(7, .ref 112), (6, .ref 104), (0, .ref 0), (1, .int x1), (2, .int x2), (3, .int x3), (4, .int x4), (5, .int x5)] [.int (-12)] i a q r (by rfl) ?_ | refine ko_steps mi_in117 1 _ (84, [(7, .ref 112), (6, .ref 104), (0, .ref 0), (1, .int x1), (2, .int x2), (3, .int x3), (4, .int x4), (5, .int x5)], [.int (-12)], (0, 0), ks i a q r) (by rfl) ?_
                  exact ft_ret mi_k117 (by rfl) (hP (-12) _ _ _ _ hG trivial)
                ·
                  have c85 : (i 7168).toInt = (2 : Int32).toInt := kd_neF c; clear c
                  have fi_6658 : ((0 : Int) ≤ (i 6658).toInt) ∧ ((i 6658).toInt ≤ 4) := hG.I.1 6658
                  have fi_7170 : ((0 : Int) ≤ (i 7170).toInt) ∧ ((i 7170).toInt ≤ 4) := hG.I.1 7170
                  first | refine ft_go mi_k117 4 79 [(7, .ref 112), (6, .ref 104), (0, .ref 0), (1, .int x1), (2, .int x2), (3, .int x3), (4, .int x4), (5, .int x5)] [.int (i 7170), .int (i 6658)] i a q r (by rfl) ?_ | refine ko_steps mi_in117 4 _ (79, [(7, .ref 112), (6, .ref 104), (0, .ref 0), (1, .int x1), (2, .int x2), (3, .int x3), (4, .int x4), (5, .int x5)], [.int (i 7170), .int (i 6658)], (0, 0), ks i a q r) (by rfl) ?_
                  refine ft_if mi_k117 ((i 6658) == (i 7170)) 85 82 [(7, .ref 112), (6, .ref 104), (0, .ref 0), (1, .int x1), (2, .int x2), (3, .int x3), (4, .int x4), (5, .int x5)] [] (by rfl) (fun c => ?_) (fun c => ?_)
                  ·
                    have c86 : (i 6658).toInt = (i 7170).toInt := kd_eq c; clear c
                    first | refine ft_go mi_k117 3 90 [(7, .ref 112), (6, .ref 104), (0, .ref 0), (1, .int x1), (2, .int x2), (3, .int x3), (4, .int x4), (5, .int x5)] [.int x5, .int x2, .ref 104] i a q r (by rfl) ?_ | refine ko_steps mi_in117 3 _ (90, [(7, .ref 112), (6, .ref 104), (0, .ref 0), (1, .int x1), (2, .int x2), (3, .int x3), (4, .int x4), (5, .int x5)], [.int x5, .int x2, .ref 104], (0, 0), ks i a q r) (by rfl) ?_
                    refine ko_callPI mi_k117.1 (pc := 90) (ls := [(7, .ref 112), (6, .ref 104), (0, .ref 0), (1, .int x1), (2, .int x2), (3, .int x3), (4, .int x4), (5, .int x5)]) (st := [.int x5, .int x2, .ref 104]) (h := ks i a q r) (i := (.invokevirtual 324, 3, 37, 0, 9, 0, 316)) (mi_k117.2 _ _ (by rfl)) (ft_invS mi_pq37 (by rfl)) (cy := mi_c37) mi_pq37 rfl (kc37_104 hG.I hG.R x2 x5) (by decide) ?_
                    intro vg87 hg87
                    rcases hg87 with ⟨eg87, hg87⟩ | ⟨eg87, hg87⟩
                    ·
                      subst eg87
                      have fi_6659 : ((0 : Int) ≤ (i 6659).toInt) ∧ ((i 6659).toInt ≤ 60) := hG.I.1 6659
                      have z88 : ((0 : Int) ≤ x5.toInt) ∧ (x5.toInt ≤ (i 6659).toInt) ∧ ((0 : Int) ≤ x2.toInt) ∧ ((x2.toInt + x5.toInt) ≤ (i 6659).toInt) := hg87
                      first | refine ft_go mi_k117 4 102 [(7, .ref 112), (6, .ref 104), (0, .ref 0), (1, .int x1), (2, .int x2), (3, .int x3), (4, .int x4), (5, .int x5)] [.int x5, .int x4, .ref 112] i a q r (by rfl) ?_ | refine ko_steps mi_in117 4 _ (102, [(7, .ref 112), (6, .ref 104), (0, .ref 0), (1, .int x1), (2, .int x2), (3, .int x3), (4, .int x4), (5, .int x5)], [.int x5, .int x4, .ref 112], (0, 0), ks i a q r) (by rfl) ?_
                      refine ko_callPI mi_k117.1 (pc := 102) (ls := [(7, .ref 112), (6, .ref 104), (0, .ref 0), (1, .int x1), (2, .int x2), (3, .int x3), (4, .int x4), (5, .int x5)]) (st := [.int x5, .int x4, .ref 112]) (h := ks i a q r) (i := (.invokevirtual 324, 3, 37, 0, 9, 0, 316)) (mi_k117.2 _ _ (by rfl)) (ft_invS mi_pq37 (by rfl)) (cy := mi_c37) mi_pq37 rfl (kc37_112 hG.I hG.R x4 x5) (by decide) ?_
                      intro vg89 hg89
                      rcases hg89 with ⟨eg89, hg89⟩ | ⟨eg89, hg89⟩
                      ·
                        subst eg89
                        have fi_7171 : ((0 : Int) ≤ (i 7171).toInt) ∧ ((i 7171).toInt ≤ 60) := hG.I.1 7171
                        have z90 : ((0 : Int) ≤ x5.toInt) ∧ (x5.toInt ≤ (i 7171).toInt) ∧ ((0 : Int) ≤ x4.toInt) ∧ ((x4.toInt + x5.toInt) ≤ (i 7171).toInt) := hg89
                        first | refine ft_go mi_k117 8 126 [(7, .ref 112), (6, .ref 104), (0, .ref 0), (1, .int x1), (2, .int x2), (3, .int x3), (4, .int x4), (5, .int x5)] [.int x5, .int x4, .ref 113, .int x2, .ref 105] i a q r (by rfl) ?_ | refine ko_steps mi_in117 8 _ (126, [(7, .ref 112), (6, .ref 104), (0, .ref 0), (1, .int x1), (2, .int x2), (3, .int x3), (4, .int x4), (5, .int x5)], [.int x5, .int x4, .ref 113, .int x2, .ref 105], (0, 0), ks i a q r) (by rfl) ?_
                        have hJ91 := kG_q hG 113 rfl (z := mi_cpy (q 105) (q 113) x2.toNatClampNeg x4.toNatClampNeg x5.toNatClampNeg) (kcpy_len2 (n := 60) (c := 60) (m := 60) (b := 60) (sp := x2) (dp := x4) (n1 := x5) (hG.I.2.2.2 105) rfl (hG.I.2.2.2 113) rfl (oz3 z88.1) (oz3 z88.2.2.1) (oz3 z90.2.2.1) (oz1278 fi_6659.2 z88.2.2.2) (oz1278 fi_7171.2 z90.2.2.2))
                        refine ko_copyL2 mi_k117.1 (l := q 105) (g := q 113) (n := 60) (c := 60) (m := 60) (b := 60) (mi_k117.2 _ _ (by rfl)) (by rfl) (by rfl) (by rfl) (by rfl) (by rfl) (hG.I.2.2.2 105) rfl (hG.I.2.2.2 113) rfl (oz3 z88.1) (oz3 z88.2.2.1) (oz3 z90.2.2.1) (oz1278 fi_6659.2 z88.2.2.2) (oz1278 fi_7171.2 z90.2.2.2) (h5 := ks i a (ku q 113 (mi_cpy (q 105) (q 113) x2.toNatClampNeg x4.toNatClampNeg x5.toNatClampNeg)) r) (by rfl) ?_
                        first | refine ft_go mi_k117 1 131 [(7, .ref 112), (6, .ref 104), (0, .ref 0), (1, .int x1), (2, .int x2), (3, .int x3), (4, .int x4), (5, .int x5)] [.int x5] i a (ku q 113 (mi_cpy (q 105) (q 113) x2.toNatClampNeg x4.toNatClampNeg x5.toNatClampNeg)) r (by rfl) ?_ | refine ko_steps mi_in117 1 _ (131, [(7, .ref 112), (6, .ref 104), (0, .ref 0), (1, .int x1), (2, .int x2), (3, .int x3), (4, .int x4), (5, .int x5)], [.int x5], (0, 0), ks i a (ku q 113 (mi_cpy (q 105) (q 113) x2.toNatClampNeg x4.toNatClampNeg x5.toNatClampNeg)) r) (by rfl) ?_
                        exact ft_ret mi_k117 (by rfl) (hP x5 _ _ _ _ hJ91 trivial)
                      ·
                        subst eg89
                        have fi_7171 : ((0 : Int) ≤ (i 7171).toInt) ∧ ((i 7171).toInt ≤ 60) := hG.I.1 7171
                        have z92 : ¬ (((0 : Int) ≤ x5.toInt) ∧ (x5.toInt ≤ (i 7171).toInt) ∧ ((0 : Int) ≤ x4.toInt) ∧ ((x4.toInt + x5.toInt) ≤ (i 7171).toInt)) := hg89
                        first | refine ft_go mi_k117 2 110 [(7, .ref 112), (6, .ref 104), (0, .ref 0), (1, .int x1), (2, .int x2), (3, .int x3), (4, .int x4), (5, .int x5)] [.int (-13)] i a q r (by rfl) ?_ | refine ko_steps mi_in117 2 _ (110, [(7, .ref 112), (6, .ref 104), (0, .ref 0), (1, .int x1), (2, .int x2), (3, .int x3), (4, .int x4), (5, .int x5)], [.int (-13)], (0, 0), ks i a q r) (by rfl) ?_
                        exact ft_ret mi_k117 (by rfl) (hP (-13) _ _ _ _ hG trivial)
                    ·
                      subst eg87
                      have fi_6659 : ((0 : Int) ≤ (i 6659).toInt) ∧ ((i 6659).toInt ≤ 60) := hG.I.1 6659
                      have z93 : ¬ (((0 : Int) ≤ x5.toInt) ∧ (x5.toInt ≤ (i 6659).toInt) ∧ ((0 : Int) ≤ x2.toInt) ∧ ((x2.toInt + x5.toInt) ≤ (i 6659).toInt)) := hg87
                      first | refine ft_go mi_k117 2 110 [(7, .ref 112), (6, .ref 104), (0, .ref 0), (1, .int x1), (2, .int x2), (3, .int x3), (4, .int x4), (5, .int x5)] [.int (-13)] i a q r (by rfl) ?_ | refine ko_steps mi_in117 2 _ (110, [(7, .ref 112), (6, .ref 104), (0, .ref 0), (1, .int x1), (2, .int x2), (3, .int x3), (4, .int x4), (5, .int x5)], [.int (-13)], (0, 0), ks i a q r) (by rfl) ?_
                      exact ft_ret mi_k117 (by rfl) (hP (-13) _ _ _ _ hG trivial)
                  ·
                    have c94 : (i 6658).toInt ≠ (i 7170).toInt := kd_eqF c; clear c
                    first | refine ft_go mi_k117 1 84 [(7, .ref 112), (6, .ref 104), (0, .ref 0), (1, .int x1), (2, .int x2), (3, .int x3), (4, .int x4), (5, .int x5)] [.int (-12)] i a q r (by rfl) ?_ | refine ko_steps mi_in117 1 _ (84, [(7, .ref 112), (6, .ref 104), (0, .ref 0), (1, .int x1), (2, .int x2), (3, .int x3), (4, .int x4), (5, .int x5)], [.int (-12)], (0, 0), ks i a q r) (by rfl) ?_
                    exact ft_ret mi_k117 (by rfl) (hP (-12) _ _ _ _ hG trivial)
            ·
              have c95 : (i 7168).toInt = (0 : Int32).toInt := kd_neF c; clear c
              first | refine ft_go mi_k117 1 50 [(7, .ref 112), (6, .ref 104), (0, .ref 0), (1, .int x1), (2, .int x2), (3, .int x3), (4, .int x4), (5, .int x5)] [.int (-11)] i a q r (by rfl) ?_ | refine ko_steps mi_in117 1 _ (50, [(7, .ref 112), (6, .ref 104), (0, .ref 0), (1, .int x1), (2, .int x2), (3, .int x3), (4, .int x4), (5, .int x5)], [.int (-11)], (0, 0), ks i a q r) (by rfl) ?_
              exact ft_ret mi_k117 (by rfl) (hP (-11) _ _ _ _ hG trivial)
        by_cases w96 : x3.toInt = 5
        ·
          refine ko_eq (x1 := (29, [(6, .ref 104), (0, .ref 0), (1, .int x1), (2, .int x2), (3, .int x3), (4, .int x4), (5, .int x5)], [.int 5, .ref 97], (0, 0), ks i a q r)) (by rw [(kj_eq w96 (by decide) : x3 = 5)]) ?_
          have fi_6656 : ((0 : Int) ≤ (i 6656).toInt) ∧ ((i 6656).toInt ≤ 2) := hG.I.1 6656
          first | refine ft_go mi_k117 4 37 [(7, .ref 114), (6, .ref 104), (0, .ref 0), (1, .int x1), (2, .int x2), (3, .int x3), (4, .int x4), (5, .int x5)] [.int (i 6656)] i a q r (by rfl) ?_ | refine ko_steps mi_in117 4 _ (37, [(7, .ref 114), (6, .ref 104), (0, .ref 0), (1, .int x1), (2, .int x2), (3, .int x3), (4, .int x4), (5, .int x5)], [.int (i 6656)], (0, 0), ks i a q r) (by rfl) ?_
          refine ft_if mi_k117 ((i 6656) == 0) 48 40 [(7, .ref 114), (6, .ref 104), (0, .ref 0), (1, .int x1), (2, .int x2), (3, .int x3), (4, .int x4), (5, .int x5)] [] (by rfl) (fun c => ?_) (fun c => ?_)
          ·
            have c97 : (i 6656).toInt = (0 : Int32).toInt := kd_eq c; clear c
            first | refine ft_go mi_k117 1 50 [(7, .ref 114), (6, .ref 104), (0, .ref 0), (1, .int x1), (2, .int x2), (3, .int x3), (4, .int x4), (5, .int x5)] [.int (-11)] i a q r (by rfl) ?_ | refine ko_steps mi_in117 1 _ (50, [(7, .ref 114), (6, .ref 104), (0, .ref 0), (1, .int x1), (2, .int x2), (3, .int x3), (4, .int x4), (5, .int x5)], [.int (-11)], (0, 0), ks i a q r) (by rfl) ?_
            exact ft_ret mi_k117 (by rfl) (hP (-11) _ _ _ _ hG trivial)
          ·
            have c98 : (i 6656).toInt ≠ (0 : Int32).toInt := kd_eqF c; clear c
            have fi_7296 : ((0 : Int) ≤ (i 7296).toInt) ∧ ((i 7296).toInt ≤ 2) := hG.I.1 7296
            first | refine ft_go mi_k117 2 45 [(7, .ref 114), (6, .ref 104), (0, .ref 0), (1, .int x1), (2, .int x2), (3, .int x3), (4, .int x4), (5, .int x5)] [.int (i 7296)] i a q r (by rfl) ?_ | refine ko_steps mi_in117 2 _ (45, [(7, .ref 114), (6, .ref 104), (0, .ref 0), (1, .int x1), (2, .int x2), (3, .int x3), (4, .int x4), (5, .int x5)], [.int (i 7296)], (0, 0), ks i a q r) (by rfl) ?_
            refine ft_if mi_k117 ((i 7296) != 0) 51 48 [(7, .ref 114), (6, .ref 104), (0, .ref 0), (1, .int x1), (2, .int x2), (3, .int x3), (4, .int x4), (5, .int x5)] [] (by rfl) (fun c => ?_) (fun c => ?_)
            ·
              have c99 : (i 7296).toInt ≠ (0 : Int32).toInt := kd_ne c; clear c
              first | refine ft_go mi_k117 3 57 [(7, .ref 114), (6, .ref 104), (0, .ref 0), (1, .int x1), (2, .int x2), (3, .int x3), (4, .int x4), (5, .int x5)] [.int 2, .int (i 6656)] i a q r (by rfl) ?_ | refine ko_steps mi_in117 3 _ (57, [(7, .ref 114), (6, .ref 104), (0, .ref 0), (1, .int x1), (2, .int x2), (3, .int x3), (4, .int x4), (5, .int x5)], [.int 2, .int (i 6656)], (0, 0), ks i a q r) (by rfl) ?_
              refine ft_if mi_k117 ((i 6656) != 2) 82 60 [(7, .ref 114), (6, .ref 104), (0, .ref 0), (1, .int x1), (2, .int x2), (3, .int x3), (4, .int x4), (5, .int x5)] [] (by rfl) (fun c => ?_) (fun c => ?_)
              ·
                have c100 : (i 6656).toInt ≠ (2 : Int32).toInt := kd_ne c; clear c
                first | refine ft_go mi_k117 1 84 [(7, .ref 114), (6, .ref 104), (0, .ref 0), (1, .int x1), (2, .int x2), (3, .int x3), (4, .int x4), (5, .int x5)] [.int (-12)] i a q r (by rfl) ?_ | refine ko_steps mi_in117 1 _ (84, [(7, .ref 114), (6, .ref 104), (0, .ref 0), (1, .int x1), (2, .int x2), (3, .int x3), (4, .int x4), (5, .int x5)], [.int (-12)], (0, 0), ks i a q r) (by rfl) ?_
                exact ft_ret mi_k117 (by rfl) (hP (-12) _ _ _ _ hG trivial)
              ·
                have c101 : (i 6656).toInt = (2 : Int32).toInt := kd_neF c; clear c
                first | refine ft_go mi_k117 3 66 [(7, .ref 114), (6, .ref 104), (0, .ref 0), (1, .int x1), (2, .int x2), (3, .int x3), (4, .int x4), (5, .int x5)] [.int 2, .int (i 7296)] i a q r (by rfl) ?_ | refine ko_steps mi_in117 3 _ (66, [(7, .ref 114), (6, .ref 104), (0, .ref 0), (1, .int x1), (2, .int x2), (3, .int x3), (4, .int x4), (5, .int x5)], [.int 2, .int (i 7296)], (0, 0), ks i a q r) (by rfl) ?_
                refine ft_if mi_k117 ((i 7296) != 2) 82 69 [(7, .ref 114), (6, .ref 104), (0, .ref 0), (1, .int x1), (2, .int x2), (3, .int x3), (4, .int x4), (5, .int x5)] [] (by rfl) (fun c => ?_) (fun c => ?_)
                ·
                  have c102 : (i 7296).toInt ≠ (2 : Int32).toInt := kd_ne c; clear c
                  first | refine ft_go mi_k117 1 84 [(7, .ref 114), (6, .ref 104), (0, .ref 0), (1, .int x1), (2, .int x2), (3, .int x3), (4, .int x4), (5, .int x5)] [.int (-12)] i a q r (by rfl) ?_ | refine ko_steps mi_in117 1 _ (84, [(7, .ref 114), (6, .ref 104), (0, .ref 0), (1, .int x1), (2, .int x2), (3, .int x3), (4, .int x4), (5, .int x5)], [.int (-12)], (0, 0), ks i a q r) (by rfl) ?_
                  exact ft_ret mi_k117 (by rfl) (hP (-12) _ _ _ _ hG trivial)
                ·
                  have c103 : (i 7296).toInt = (2 : Int32).toInt := kd_neF c; clear c
                  have fi_6658 : ((0 : Int) ≤ (i 6658).toInt) ∧ ((i 6658).toInt ≤ 4) := hG.I.1 6658
                  have fi_7298 : ((0 : Int) ≤ (i 7298).toInt) ∧ ((i 7298).toInt ≤ 4) := hG.I.1 7298
                  first | refine ft_go mi_k117 4 79 [(7, .ref 114), (6, .ref 104), (0, .ref 0), (1, .int x1), (2, .int x2), (3, .int x3), (4, .int x4), (5, .int x5)] [.int (i 7298), .int (i 6658)] i a q r (by rfl) ?_ | refine ko_steps mi_in117 4 _ (79, [(7, .ref 114), (6, .ref 104), (0, .ref 0), (1, .int x1), (2, .int x2), (3, .int x3), (4, .int x4), (5, .int x5)], [.int (i 7298), .int (i 6658)], (0, 0), ks i a q r) (by rfl) ?_
                  refine ft_if mi_k117 ((i 6658) == (i 7298)) 85 82 [(7, .ref 114), (6, .ref 104), (0, .ref 0), (1, .int x1), (2, .int x2), (3, .int x3), (4, .int x4), (5, .int x5)] [] (by rfl) (fun c => ?_) (fun c => ?_)
                  ·
                    have c104 : (i 6658).toInt = (i 7298).toInt := kd_eq c; clear c
                    first | refine ft_go mi_k117 3 90 [(7, .ref 114), (6, .ref 104), (0, .ref 0), (1, .int x1), (2, .int x2), (3, .int x3), (4, .int x4), (5, .int x5)] [.int x5, .int x2, .ref 104] i a q r (by rfl) ?_ | refine ko_steps mi_in117 3 _ (90, [(7, .ref 114), (6, .ref 104), (0, .ref 0), (1, .int x1), (2, .int x2), (3, .int x3), (4, .int x4), (5, .int x5)], [.int x5, .int x2, .ref 104], (0, 0), ks i a q r) (by rfl) ?_
                    refine ko_callPI mi_k117.1 (pc := 90) (ls := [(7, .ref 114), (6, .ref 104), (0, .ref 0), (1, .int x1), (2, .int x2), (3, .int x3), (4, .int x4), (5, .int x5)]) (st := [.int x5, .int x2, .ref 104]) (h := ks i a q r) (i := (.invokevirtual 324, 3, 37, 0, 9, 0, 316)) (mi_k117.2 _ _ (by rfl)) (ft_invS mi_pq37 (by rfl)) (cy := mi_c37) mi_pq37 rfl (kc37_104 hG.I hG.R x2 x5) (by decide) ?_
                    intro vg105 hg105
                    rcases hg105 with ⟨eg105, hg105⟩ | ⟨eg105, hg105⟩
                    ·
                      subst eg105
                      have fi_6659 : ((0 : Int) ≤ (i 6659).toInt) ∧ ((i 6659).toInt ≤ 60) := hG.I.1 6659
                      have z106 : ((0 : Int) ≤ x5.toInt) ∧ (x5.toInt ≤ (i 6659).toInt) ∧ ((0 : Int) ≤ x2.toInt) ∧ ((x2.toInt + x5.toInt) ≤ (i 6659).toInt) := hg105
                      first | refine ft_go mi_k117 4 102 [(7, .ref 114), (6, .ref 104), (0, .ref 0), (1, .int x1), (2, .int x2), (3, .int x3), (4, .int x4), (5, .int x5)] [.int x5, .int x4, .ref 114] i a q r (by rfl) ?_ | refine ko_steps mi_in117 4 _ (102, [(7, .ref 114), (6, .ref 104), (0, .ref 0), (1, .int x1), (2, .int x2), (3, .int x3), (4, .int x4), (5, .int x5)], [.int x5, .int x4, .ref 114], (0, 0), ks i a q r) (by rfl) ?_
                      refine ko_callPI mi_k117.1 (pc := 102) (ls := [(7, .ref 114), (6, .ref 104), (0, .ref 0), (1, .int x1), (2, .int x2), (3, .int x3), (4, .int x4), (5, .int x5)]) (st := [.int x5, .int x4, .ref 114]) (h := ks i a q r) (i := (.invokevirtual 324, 3, 37, 0, 9, 0, 316)) (mi_k117.2 _ _ (by rfl)) (ft_invS mi_pq37 (by rfl)) (cy := mi_c37) mi_pq37 rfl (kc37_114 hG.I hG.R x4 x5) (by decide) ?_
                      intro vg107 hg107
                      rcases hg107 with ⟨eg107, hg107⟩ | ⟨eg107, hg107⟩
                      ·
                        subst eg107
                        have fi_7299 : ((0 : Int) ≤ (i 7299).toInt) ∧ ((i 7299).toInt ≤ 60) := hG.I.1 7299
                        have z108 : ((0 : Int) ≤ x5.toInt) ∧ (x5.toInt ≤ (i 7299).toInt) ∧ ((0 : Int) ≤ x4.toInt) ∧ ((x4.toInt + x5.toInt) ≤ (i 7299).toInt) := hg107
                        first | refine ft_go mi_k117 8 126 [(7, .ref 114), (6, .ref 104), (0, .ref 0), (1, .int x1), (2, .int x2), (3, .int x3), (4, .int x4), (5, .int x5)] [.int x5, .int x4, .ref 115, .int x2, .ref 105] i a q r (by rfl) ?_ | refine ko_steps mi_in117 8 _ (126, [(7, .ref 114), (6, .ref 104), (0, .ref 0), (1, .int x1), (2, .int x2), (3, .int x3), (4, .int x4), (5, .int x5)], [.int x5, .int x4, .ref 115, .int x2, .ref 105], (0, 0), ks i a q r) (by rfl) ?_
                        have hJ109 := kG_q hG 115 rfl (z := mi_cpy (q 105) (q 115) x2.toNatClampNeg x4.toNatClampNeg x5.toNatClampNeg) (kcpy_len2 (n := 60) (c := 60) (m := 60) (b := 60) (sp := x2) (dp := x4) (n1 := x5) (hG.I.2.2.2 105) rfl (hG.I.2.2.2 115) rfl (oz3 z106.1) (oz3 z106.2.2.1) (oz3 z108.2.2.1) (oz1278 fi_6659.2 z106.2.2.2) (oz1278 fi_7299.2 z108.2.2.2))
                        refine ko_copyL2 mi_k117.1 (l := q 105) (g := q 115) (n := 60) (c := 60) (m := 60) (b := 60) (mi_k117.2 _ _ (by rfl)) (by rfl) (by rfl) (by rfl) (by rfl) (by rfl) (hG.I.2.2.2 105) rfl (hG.I.2.2.2 115) rfl (oz3 z106.1) (oz3 z106.2.2.1) (oz3 z108.2.2.1) (oz1278 fi_6659.2 z106.2.2.2) (oz1278 fi_7299.2 z108.2.2.2) (h5 := ks i a (ku q 115 (mi_cpy (q 105) (q 115) x2.toNatClampNeg x4.toNatClampNeg x5.toNatClampNeg)) r) (by rfl) ?_
                        first | refine ft_go mi_k117 1 131 [(7, .ref 114), (6, .ref 104), (0, .ref 0), (1, .int x1), (2, .int x2), (3, .int x3), (4, .int x4), (5, .int x5)] [.int x5] i a (ku q 115 (mi_cpy (q 105) (q 115) x2.toNatClampNeg x4.toNatClampNeg x5.toNatClampNeg)) r (by rfl) ?_ | refine ko_steps mi_in117 1 _ (131, [(7, .ref 114), (6, .ref 104), (0, .ref 0), (1, .int x1), (2, .int x2), (3, .int x3), (4, .int x4), (5, .int x5)], [.int x5], (0, 0), ks i a (ku q 115 (mi_cpy (q 105) (q 115) x2.toNatClampNeg x4.toNatClampNeg x5.toNatClampNeg)) r) (by rfl) ?_
                        exact ft_ret mi_k117 (by rfl) (hP x5 _ _ _ _ hJ109 trivial)
                      ·
                        subst eg107
                        have fi_7299 : ((0 : Int) ≤ (i 7299).toInt) ∧ ((i 7299).toInt ≤ 60) := hG.I.1 7299
                        have z110 : ¬ (((0 : Int) ≤ x5.toInt) ∧ (x5.toInt ≤ (i 7299).toInt) ∧ ((0 : Int) ≤ x4.toInt) ∧ ((x4.toInt + x5.toInt) ≤ (i 7299).toInt)) := hg107
                        first | refine ft_go mi_k117 2 110 [(7, .ref 114), (6, .ref 104), (0, .ref 0), (1, .int x1), (2, .int x2), (3, .int x3), (4, .int x4), (5, .int x5)] [.int (-13)] i a q r (by rfl) ?_ | refine ko_steps mi_in117 2 _ (110, [(7, .ref 114), (6, .ref 104), (0, .ref 0), (1, .int x1), (2, .int x2), (3, .int x3), (4, .int x4), (5, .int x5)], [.int (-13)], (0, 0), ks i a q r) (by rfl) ?_
                        exact ft_ret mi_k117 (by rfl) (hP (-13) _ _ _ _ hG trivial)
                    ·
                      subst eg105
                      have fi_6659 : ((0 : Int) ≤ (i 6659).toInt) ∧ ((i 6659).toInt ≤ 60) := hG.I.1 6659
                      have z111 : ¬ (((0 : Int) ≤ x5.toInt) ∧ (x5.toInt ≤ (i 6659).toInt) ∧ ((0 : Int) ≤ x2.toInt) ∧ ((x2.toInt + x5.toInt) ≤ (i 6659).toInt)) := hg105
                      first | refine ft_go mi_k117 2 110 [(7, .ref 114), (6, .ref 104), (0, .ref 0), (1, .int x1), (2, .int x2), (3, .int x3), (4, .int x4), (5, .int x5)] [.int (-13)] i a q r (by rfl) ?_ | refine ko_steps mi_in117 2 _ (110, [(7, .ref 114), (6, .ref 104), (0, .ref 0), (1, .int x1), (2, .int x2), (3, .int x3), (4, .int x4), (5, .int x5)], [.int (-13)], (0, 0), ks i a q r) (by rfl) ?_
                      exact ft_ret mi_k117 (by rfl) (hP (-13) _ _ _ _ hG trivial)
                  ·
                    have c112 : (i 6658).toInt ≠ (i 7298).toInt := kd_eqF c; clear c
                    first | refine ft_go mi_k117 1 84 [(7, .ref 114), (6, .ref 104), (0, .ref 0), (1, .int x1), (2, .int x2), (3, .int x3), (4, .int x4), (5, .int x5)] [.int (-12)] i a q r (by rfl) ?_ | refine ko_steps mi_in117 1 _ (84, [(7, .ref 114), (6, .ref 104), (0, .ref 0), (1, .int x1), (2, .int x2), (3, .int x3), (4, .int x4), (5, .int x5)], [.int (-12)], (0, 0), ks i a q r) (by rfl) ?_
                    exact ft_ret mi_k117 (by rfl) (hP (-12) _ _ _ _ hG trivial)
            ·
              have c113 : (i 7296).toInt = (0 : Int32).toInt := kd_neF c; clear c
              first | refine ft_go mi_k117 1 50 [(7, .ref 114), (6, .ref 104), (0, .ref 0), (1, .int x1), (2, .int x2), (3, .int x3), (4, .int x4), (5, .int x5)] [.int (-11)] i a q r (by rfl) ?_ | refine ko_steps mi_in117 1 _ (50, [(7, .ref 114), (6, .ref 104), (0, .ref 0), (1, .int x1), (2, .int x2), (3, .int x3), (4, .int x4), (5, .int x5)], [.int (-11)], (0, 0), ks i a q r) (by rfl) ?_
              exact ft_ret mi_k117 (by rfl) (hP (-11) _ _ _ _ hG trivial)
        exact (oz1008 w24 w42 w6 w60 w78 w96 z4.1 z4.2).elim
      by_cases w114 : x1.toInt = 1
      ·
        refine ko_eq (x1 := (21, [(0, .ref 0), (1, .int x1), (2, .int x2), (3, .int x3), (4, .int x4), (5, .int x5)], [.int 1, .ref 97], (0, 0), ks i a q r)) (by rw [(kj_eq w114 (by decide) : x1 = 1)]) ?_
        first | refine ft_go mi_k117 5 29 [(6, .ref 106), (0, .ref 0), (1, .int x1), (2, .int x2), (3, .int x3), (4, .int x4), (5, .int x5)] [.int x3, .ref 97] i a q r (by rfl) ?_ | refine ko_steps mi_in117 5 _ (29, [(6, .ref 106), (0, .ref 0), (1, .int x1), (2, .int x2), (3, .int x3), (4, .int x4), (5, .int x5)], [.int x3, .ref 97], (0, 0), ks i a q r) (by rfl) ?_
        by_cases w115 : x3.toInt = 0
        ·
          refine ko_eq (x1 := (29, [(6, .ref 106), (0, .ref 0), (1, .int x1), (2, .int x2), (3, .int x3), (4, .int x4), (5, .int x5)], [.int 0, .ref 97], (0, 0), ks i a q r)) (by rw [(kj_eq w115 (by decide) : x3 = 0)]) ?_
          have fi_6784 : ((0 : Int) ≤ (i 6784).toInt) ∧ ((i 6784).toInt ≤ 2) := hG.I.1 6784
          first | refine ft_go mi_k117 4 37 [(7, .ref 104), (6, .ref 106), (0, .ref 0), (1, .int x1), (2, .int x2), (3, .int x3), (4, .int x4), (5, .int x5)] [.int (i 6784)] i a q r (by rfl) ?_ | refine ko_steps mi_in117 4 _ (37, [(7, .ref 104), (6, .ref 106), (0, .ref 0), (1, .int x1), (2, .int x2), (3, .int x3), (4, .int x4), (5, .int x5)], [.int (i 6784)], (0, 0), ks i a q r) (by rfl) ?_
          refine ft_if mi_k117 ((i 6784) == 0) 48 40 [(7, .ref 104), (6, .ref 106), (0, .ref 0), (1, .int x1), (2, .int x2), (3, .int x3), (4, .int x4), (5, .int x5)] [] (by rfl) (fun c => ?_) (fun c => ?_)
          ·
            have c116 : (i 6784).toInt = (0 : Int32).toInt := kd_eq c; clear c
            first | refine ft_go mi_k117 1 50 [(7, .ref 104), (6, .ref 106), (0, .ref 0), (1, .int x1), (2, .int x2), (3, .int x3), (4, .int x4), (5, .int x5)] [.int (-11)] i a q r (by rfl) ?_ | refine ko_steps mi_in117 1 _ (50, [(7, .ref 104), (6, .ref 106), (0, .ref 0), (1, .int x1), (2, .int x2), (3, .int x3), (4, .int x4), (5, .int x5)], [.int (-11)], (0, 0), ks i a q r) (by rfl) ?_
            exact ft_ret mi_k117 (by rfl) (hP (-11) _ _ _ _ hG trivial)
          ·
            have c117 : (i 6784).toInt ≠ (0 : Int32).toInt := kd_eqF c; clear c
            have fi_6656 : ((0 : Int) ≤ (i 6656).toInt) ∧ ((i 6656).toInt ≤ 2) := hG.I.1 6656
            first | refine ft_go mi_k117 2 45 [(7, .ref 104), (6, .ref 106), (0, .ref 0), (1, .int x1), (2, .int x2), (3, .int x3), (4, .int x4), (5, .int x5)] [.int (i 6656)] i a q r (by rfl) ?_ | refine ko_steps mi_in117 2 _ (45, [(7, .ref 104), (6, .ref 106), (0, .ref 0), (1, .int x1), (2, .int x2), (3, .int x3), (4, .int x4), (5, .int x5)], [.int (i 6656)], (0, 0), ks i a q r) (by rfl) ?_
            refine ft_if mi_k117 ((i 6656) != 0) 51 48 [(7, .ref 104), (6, .ref 106), (0, .ref 0), (1, .int x1), (2, .int x2), (3, .int x3), (4, .int x4), (5, .int x5)] [] (by rfl) (fun c => ?_) (fun c => ?_)
            ·
              have c118 : (i 6656).toInt ≠ (0 : Int32).toInt := kd_ne c; clear c
              first | refine ft_go mi_k117 3 57 [(7, .ref 104), (6, .ref 106), (0, .ref 0), (1, .int x1), (2, .int x2), (3, .int x3), (4, .int x4), (5, .int x5)] [.int 2, .int (i 6784)] i a q r (by rfl) ?_ | refine ko_steps mi_in117 3 _ (57, [(7, .ref 104), (6, .ref 106), (0, .ref 0), (1, .int x1), (2, .int x2), (3, .int x3), (4, .int x4), (5, .int x5)], [.int 2, .int (i 6784)], (0, 0), ks i a q r) (by rfl) ?_
              refine ft_if mi_k117 ((i 6784) != 2) 82 60 [(7, .ref 104), (6, .ref 106), (0, .ref 0), (1, .int x1), (2, .int x2), (3, .int x3), (4, .int x4), (5, .int x5)] [] (by rfl) (fun c => ?_) (fun c => ?_)
              ·
                have c119 : (i 6784).toInt ≠ (2 : Int32).toInt := kd_ne c; clear c
                first | refine ft_go mi_k117 1 84 [(7, .ref 104), (6, .ref 106), (0, .ref 0), (1, .int x1), (2, .int x2), (3, .int x3), (4, .int x4), (5, .int x5)] [.int (-12)] i a q r (by rfl) ?_ | refine ko_steps mi_in117 1 _ (84, [(7, .ref 104), (6, .ref 106), (0, .ref 0), (1, .int x1), (2, .int x2), (3, .int x3), (4, .int x4), (5, .int x5)], [.int (-12)], (0, 0), ks i a q r) (by rfl) ?_
                exact ft_ret mi_k117 (by rfl) (hP (-12) _ _ _ _ hG trivial)
              ·
                have c120 : (i 6784).toInt = (2 : Int32).toInt := kd_neF c; clear c
                first | refine ft_go mi_k117 3 66 [(7, .ref 104), (6, .ref 106), (0, .ref 0), (1, .int x1), (2, .int x2), (3, .int x3), (4, .int x4), (5, .int x5)] [.int 2, .int (i 6656)] i a q r (by rfl) ?_ | refine ko_steps mi_in117 3 _ (66, [(7, .ref 104), (6, .ref 106), (0, .ref 0), (1, .int x1), (2, .int x2), (3, .int x3), (4, .int x4), (5, .int x5)], [.int 2, .int (i 6656)], (0, 0), ks i a q r) (by rfl) ?_
                refine ft_if mi_k117 ((i 6656) != 2) 82 69 [(7, .ref 104), (6, .ref 106), (0, .ref 0), (1, .int x1), (2, .int x2), (3, .int x3), (4, .int x4), (5, .int x5)] [] (by rfl) (fun c => ?_) (fun c => ?_)
                ·
                  have c121 : (i 6656).toInt ≠ (2 : Int32).toInt := kd_ne c; clear c
                  first | refine ft_go mi_k117 1 84 [(7, .ref 104), (6, .ref 106), (0, .ref 0), (1, .int x1), (2, .int x2), (3, .int x3), (4, .int x4), (5, .int x5)] [.int (-12)] i a q r (by rfl) ?_ | refine ko_steps mi_in117 1 _ (84, [(7, .ref 104), (6, .ref 106), (0, .ref 0), (1, .int x1), (2, .int x2), (3, .int x3), (4, .int x4), (5, .int x5)], [.int (-12)], (0, 0), ks i a q r) (by rfl) ?_
                  exact ft_ret mi_k117 (by rfl) (hP (-12) _ _ _ _ hG trivial)
                ·
                  have c122 : (i 6656).toInt = (2 : Int32).toInt := kd_neF c; clear c
                  have fi_6786 : ((0 : Int) ≤ (i 6786).toInt) ∧ ((i 6786).toInt ≤ 4) := hG.I.1 6786
                  have fi_6658 : ((0 : Int) ≤ (i 6658).toInt) ∧ ((i 6658).toInt ≤ 4) := hG.I.1 6658
                  first | refine ft_go mi_k117 4 79 [(7, .ref 104), (6, .ref 106), (0, .ref 0), (1, .int x1), (2, .int x2), (3, .int x3), (4, .int x4), (5, .int x5)] [.int (i 6658), .int (i 6786)] i a q r (by rfl) ?_ | refine ko_steps mi_in117 4 _ (79, [(7, .ref 104), (6, .ref 106), (0, .ref 0), (1, .int x1), (2, .int x2), (3, .int x3), (4, .int x4), (5, .int x5)], [.int (i 6658), .int (i 6786)], (0, 0), ks i a q r) (by rfl) ?_
                  refine ft_if mi_k117 ((i 6786) == (i 6658)) 85 82 [(7, .ref 104), (6, .ref 106), (0, .ref 0), (1, .int x1), (2, .int x2), (3, .int x3), (4, .int x4), (5, .int x5)] [] (by rfl) (fun c => ?_) (fun c => ?_)
                  ·
                    have c123 : (i 6786).toInt = (i 6658).toInt := kd_eq c; clear c
                    first | refine ft_go mi_k117 3 90 [(7, .ref 104), (6, .ref 106), (0, .ref 0), (1, .int x1), (2, .int x2), (3, .int x3), (4, .int x4), (5, .int x5)] [.int x5, .int x2, .ref 106] i a q r (by rfl) ?_ | refine ko_steps mi_in117 3 _ (90, [(7, .ref 104), (6, .ref 106), (0, .ref 0), (1, .int x1), (2, .int x2), (3, .int x3), (4, .int x4), (5, .int x5)], [.int x5, .int x2, .ref 106], (0, 0), ks i a q r) (by rfl) ?_
                    refine ko_callPI mi_k117.1 (pc := 90) (ls := [(7, .ref 104), (6, .ref 106), (0, .ref 0), (1, .int x1), (2, .int x2), (3, .int x3), (4, .int x4), (5, .int x5)]) (st := [.int x5, .int x2, .ref 106]) (h := ks i a q r) (i := (.invokevirtual 324, 3, 37, 0, 9, 0, 316)) (mi_k117.2 _ _ (by rfl)) (ft_invS mi_pq37 (by rfl)) (cy := mi_c37) mi_pq37 rfl (kc37_106 hG.I hG.R x2 x5) (by decide) ?_
                    intro vg124 hg124
                    rcases hg124 with ⟨eg124, hg124⟩ | ⟨eg124, hg124⟩
                    ·
                      subst eg124
                      have fi_6787 : ((0 : Int) ≤ (i 6787).toInt) ∧ ((i 6787).toInt ≤ 60) := hG.I.1 6787
                      have z125 : ((0 : Int) ≤ x5.toInt) ∧ (x5.toInt ≤ (i 6787).toInt) ∧ ((0 : Int) ≤ x2.toInt) ∧ ((x2.toInt + x5.toInt) ≤ (i 6787).toInt) := hg124
                      first | refine ft_go mi_k117 4 102 [(7, .ref 104), (6, .ref 106), (0, .ref 0), (1, .int x1), (2, .int x2), (3, .int x3), (4, .int x4), (5, .int x5)] [.int x5, .int x4, .ref 104] i a q r (by rfl) ?_ | refine ko_steps mi_in117 4 _ (102, [(7, .ref 104), (6, .ref 106), (0, .ref 0), (1, .int x1), (2, .int x2), (3, .int x3), (4, .int x4), (5, .int x5)], [.int x5, .int x4, .ref 104], (0, 0), ks i a q r) (by rfl) ?_
                      refine ko_callPI mi_k117.1 (pc := 102) (ls := [(7, .ref 104), (6, .ref 106), (0, .ref 0), (1, .int x1), (2, .int x2), (3, .int x3), (4, .int x4), (5, .int x5)]) (st := [.int x5, .int x4, .ref 104]) (h := ks i a q r) (i := (.invokevirtual 324, 3, 37, 0, 9, 0, 316)) (mi_k117.2 _ _ (by rfl)) (ft_invS mi_pq37 (by rfl)) (cy := mi_c37) mi_pq37 rfl (kc37_104 hG.I hG.R x4 x5) (by decide) ?_
                      intro vg126 hg126
                      rcases hg126 with ⟨eg126, hg126⟩ | ⟨eg126, hg126⟩
                      ·
                        subst eg126
                        have fi_6659 : ((0 : Int) ≤ (i 6659).toInt) ∧ ((i 6659).toInt ≤ 60) := hG.I.1 6659
                        have z127 : ((0 : Int) ≤ x5.toInt) ∧ (x5.toInt ≤ (i 6659).toInt) ∧ ((0 : Int) ≤ x4.toInt) ∧ ((x4.toInt + x5.toInt) ≤ (i 6659).toInt) := hg126
                        first | refine ft_go mi_k117 8 126 [(7, .ref 104), (6, .ref 106), (0, .ref 0), (1, .int x1), (2, .int x2), (3, .int x3), (4, .int x4), (5, .int x5)] [.int x5, .int x4, .ref 105, .int x2, .ref 107] i a q r (by rfl) ?_ | refine ko_steps mi_in117 8 _ (126, [(7, .ref 104), (6, .ref 106), (0, .ref 0), (1, .int x1), (2, .int x2), (3, .int x3), (4, .int x4), (5, .int x5)], [.int x5, .int x4, .ref 105, .int x2, .ref 107], (0, 0), ks i a q r) (by rfl) ?_
                        have hJ128 := kG_q hG 105 rfl (z := mi_cpy (q 107) (q 105) x2.toNatClampNeg x4.toNatClampNeg x5.toNatClampNeg) (kcpy_len2 (n := 60) (c := 60) (m := 60) (b := 60) (sp := x2) (dp := x4) (n1 := x5) (hG.I.2.2.2 107) rfl (hG.I.2.2.2 105) rfl (oz3 z125.1) (oz3 z125.2.2.1) (oz3 z127.2.2.1) (oz1278 fi_6787.2 z125.2.2.2) (oz1278 fi_6659.2 z127.2.2.2))
                        refine ko_copyL2 mi_k117.1 (l := q 107) (g := q 105) (n := 60) (c := 60) (m := 60) (b := 60) (mi_k117.2 _ _ (by rfl)) (by rfl) (by rfl) (by rfl) (by rfl) (by rfl) (hG.I.2.2.2 107) rfl (hG.I.2.2.2 105) rfl (oz3 z125.1) (oz3 z125.2.2.1) (oz3 z127.2.2.1) (oz1278 fi_6787.2 z125.2.2.2) (oz1278 fi_6659.2 z127.2.2.2) (h5 := ks i a (ku q 105 (mi_cpy (q 107) (q 105) x2.toNatClampNeg x4.toNatClampNeg x5.toNatClampNeg)) r) (by rfl) ?_
                        first | refine ft_go mi_k117 1 131 [(7, .ref 104), (6, .ref 106), (0, .ref 0), (1, .int x1), (2, .int x2), (3, .int x3), (4, .int x4), (5, .int x5)] [.int x5] i a (ku q 105 (mi_cpy (q 107) (q 105) x2.toNatClampNeg x4.toNatClampNeg x5.toNatClampNeg)) r (by rfl) ?_ | refine ko_steps mi_in117 1 _ (131, [(7, .ref 104), (6, .ref 106), (0, .ref 0), (1, .int x1), (2, .int x2), (3, .int x3), (4, .int x4), (5, .int x5)], [.int x5], (0, 0), ks i a (ku q 105 (mi_cpy (q 107) (q 105) x2.toNatClampNeg x4.toNatClampNeg x5.toNatClampNeg)) r) (by rfl) ?_
                        exact ft_ret mi_k117 (by rfl) (hP x5 _ _ _ _ hJ128 trivial)
                      ·
                        subst eg126
                        have fi_6659 : ((0 : Int) ≤ (i 6659).toInt) ∧ ((i 6659).toInt ≤ 60) := hG.I.1 6659
                        have z129 : ¬ (((0 : Int) ≤ x5.toInt) ∧ (x5.toInt ≤ (i 6659).toInt) ∧ ((0 : Int) ≤ x4.toInt) ∧ ((x4.toInt + x5.toInt) ≤ (i 6659).toInt)) := hg126
                        first | refine ft_go mi_k117 2 110 [(7, .ref 104), (6, .ref 106), (0, .ref 0), (1, .int x1), (2, .int x2), (3, .int x3), (4, .int x4), (5, .int x5)] [.int (-13)] i a q r (by rfl) ?_ | refine ko_steps mi_in117 2 _ (110, [(7, .ref 104), (6, .ref 106), (0, .ref 0), (1, .int x1), (2, .int x2), (3, .int x3), (4, .int x4), (5, .int x5)], [.int (-13)], (0, 0), ks i a q r) (by rfl) ?_
                        exact ft_ret mi_k117 (by rfl) (hP (-13) _ _ _ _ hG trivial)
                    ·
                      subst eg124
                      have fi_6787 : ((0 : Int) ≤ (i 6787).toInt) ∧ ((i 6787).toInt ≤ 60) := hG.I.1 6787
                      have z130 : ¬ (((0 : Int) ≤ x5.toInt) ∧ (x5.toInt ≤ (i 6787).toInt) ∧ ((0 : Int) ≤ x2.toInt) ∧ ((x2.toInt + x5.toInt) ≤ (i 6787).toInt)) := hg124
                      first | refine ft_go mi_k117 2 110 [(7, .ref 104), (6, .ref 106), (0, .ref 0), (1, .int x1), (2, .int x2), (3, .int x3), (4, .int x4), (5, .int x5)] [.int (-13)] i a q r (by rfl) ?_ | refine ko_steps mi_in117 2 _ (110, [(7, .ref 104), (6, .ref 106), (0, .ref 0), (1, .int x1), (2, .int x2), (3, .int x3), (4, .int x4), (5, .int x5)], [.int (-13)], (0, 0), ks i a q r) (by rfl) ?_
                      exact ft_ret mi_k117 (by rfl) (hP (-13) _ _ _ _ hG trivial)
                  ·
                    have c131 : (i 6786).toInt ≠ (i 6658).toInt := kd_eqF c; clear c
                    first | refine ft_go mi_k117 1 84 [(7, .ref 104), (6, .ref 106), (0, .ref 0), (1, .int x1), (2, .int x2), (3, .int x3), (4, .int x4), (5, .int x5)] [.int (-12)] i a q r (by rfl) ?_ | refine ko_steps mi_in117 1 _ (84, [(7, .ref 104), (6, .ref 106), (0, .ref 0), (1, .int x1), (2, .int x2), (3, .int x3), (4, .int x4), (5, .int x5)], [.int (-12)], (0, 0), ks i a q r) (by rfl) ?_
                    exact ft_ret mi_k117 (by rfl) (hP (-12) _ _ _ _ hG trivial)
            ·
              have c132 : (i 6656).toInt = (0 : Int32).toInt := kd_neF c; clear c
              first | refine ft_go mi_k117 1 50 [(7, .ref 104), (6, .ref 106), (0, .ref 0), (1, .int x1), (2, .int x2), (3, .int x3), (4, .int x4), (5, .int x5)] [.int (-11)] i a q r (by rfl) ?_ | refine ko_steps mi_in117 1 _ (50, [(7, .ref 104), (6, .ref 106), (0, .ref 0), (1, .int x1), (2, .int x2), (3, .int x3), (4, .int x4), (5, .int x5)], [.int (-11)], (0, 0), ks i a q r) (by rfl) ?_
              exact ft_ret mi_k117 (by rfl) (hP (-11) _ _ _ _ hG trivial)
        by_cases w133 : x3.toInt = 1
        ·
          refine ko_eq (x1 := (29, [(6, .ref 106), (0, .ref 0), (1, .int x1), (2, .int x2), (3, .int x3), (4, .int x4), (5, .int x5)], [.int 1, .ref 97], (0, 0), ks i a q r)) (by rw [(kj_eq w133 (by decide) : x3 = 1)]) ?_
          have fi_6784 : ((0 : Int) ≤ (i 6784).toInt) ∧ ((i 6784).toInt ≤ 2) := hG.I.1 6784
          first | refine ft_go mi_k117 4 37 [(7, .ref 106), (6, .ref 106), (0, .ref 0), (1, .int x1), (2, .int x2), (3, .int x3), (4, .int x4), (5, .int x5)] [.int (i 6784)] i a q r (by rfl) ?_ | refine ko_steps mi_in117 4 _ (37, [(7, .ref 106), (6, .ref 106), (0, .ref 0), (1, .int x1), (2, .int x2), (3, .int x3), (4, .int x4), (5, .int x5)], [.int (i 6784)], (0, 0), ks i a q r) (by rfl) ?_
          refine ft_if mi_k117 ((i 6784) == 0) 48 40 [(7, .ref 106), (6, .ref 106), (0, .ref 0), (1, .int x1), (2, .int x2), (3, .int x3), (4, .int x4), (5, .int x5)] [] (by rfl) (fun c => ?_) (fun c => ?_)
          ·
            have c134 : (i 6784).toInt = (0 : Int32).toInt := kd_eq c; clear c
            first | refine ft_go mi_k117 1 50 [(7, .ref 106), (6, .ref 106), (0, .ref 0), (1, .int x1), (2, .int x2), (3, .int x3), (4, .int x4), (5, .int x5)] [.int (-11)] i a q r (by rfl) ?_ | refine ko_steps mi_in117 1 _ (50, [(7, .ref 106), (6, .ref 106), (0, .ref 0), (1, .int x1), (2, .int x2), (3, .int x3), (4, .int x4), (5, .int x5)], [.int (-11)], (0, 0), ks i a q r) (by rfl) ?_
            exact ft_ret mi_k117 (by rfl) (hP (-11) _ _ _ _ hG trivial)
          ·
            have c135 : (i 6784).toInt ≠ (0 : Int32).toInt := kd_eqF c; clear c
            first | refine ft_go mi_k117 2 45 [(7, .ref 106), (6, .ref 106), (0, .ref 0), (1, .int x1), (2, .int x2), (3, .int x3), (4, .int x4), (5, .int x5)] [.int (i 6784)] i a q r (by rfl) ?_ | refine ko_steps mi_in117 2 _ (45, [(7, .ref 106), (6, .ref 106), (0, .ref 0), (1, .int x1), (2, .int x2), (3, .int x3), (4, .int x4), (5, .int x5)], [.int (i 6784)], (0, 0), ks i a q r) (by rfl) ?_
            refine ft_if mi_k117 ((i 6784) != 0) 51 48 [(7, .ref 106), (6, .ref 106), (0, .ref 0), (1, .int x1), (2, .int x2), (3, .int x3), (4, .int x4), (5, .int x5)] [] (by rfl) (fun c => ?_) (fun c => ?_)
            ·
              have c136 : (i 6784).toInt ≠ (0 : Int32).toInt := kd_ne c; clear c
              first | refine ft_go mi_k117 3 57 [(7, .ref 106), (6, .ref 106), (0, .ref 0), (1, .int x1), (2, .int x2), (3, .int x3), (4, .int x4), (5, .int x5)] [.int 2, .int (i 6784)] i a q r (by rfl) ?_ | refine ko_steps mi_in117 3 _ (57, [(7, .ref 106), (6, .ref 106), (0, .ref 0), (1, .int x1), (2, .int x2), (3, .int x3), (4, .int x4), (5, .int x5)], [.int 2, .int (i 6784)], (0, 0), ks i a q r) (by rfl) ?_
              refine ft_if mi_k117 ((i 6784) != 2) 82 60 [(7, .ref 106), (6, .ref 106), (0, .ref 0), (1, .int x1), (2, .int x2), (3, .int x3), (4, .int x4), (5, .int x5)] [] (by rfl) (fun c => ?_) (fun c => ?_)
              ·
                have c137 : (i 6784).toInt ≠ (2 : Int32).toInt := kd_ne c; clear c
                first | refine ft_go mi_k117 1 84 [(7, .ref 106), (6, .ref 106), (0, .ref 0), (1, .int x1), (2, .int x2), (3, .int x3), (4, .int x4), (5, .int x5)] [.int (-12)] i a q r (by rfl) ?_ | refine ko_steps mi_in117 1 _ (84, [(7, .ref 106), (6, .ref 106), (0, .ref 0), (1, .int x1), (2, .int x2), (3, .int x3), (4, .int x4), (5, .int x5)], [.int (-12)], (0, 0), ks i a q r) (by rfl) ?_
                exact ft_ret mi_k117 (by rfl) (hP (-12) _ _ _ _ hG trivial)
              ·
                have c138 : (i 6784).toInt = (2 : Int32).toInt := kd_neF c; clear c
                first | refine ft_go mi_k117 3 66 [(7, .ref 106), (6, .ref 106), (0, .ref 0), (1, .int x1), (2, .int x2), (3, .int x3), (4, .int x4), (5, .int x5)] [.int 2, .int (i 6784)] i a q r (by rfl) ?_ | refine ko_steps mi_in117 3 _ (66, [(7, .ref 106), (6, .ref 106), (0, .ref 0), (1, .int x1), (2, .int x2), (3, .int x3), (4, .int x4), (5, .int x5)], [.int 2, .int (i 6784)], (0, 0), ks i a q r) (by rfl) ?_
                refine ft_if mi_k117 ((i 6784) != 2) 82 69 [(7, .ref 106), (6, .ref 106), (0, .ref 0), (1, .int x1), (2, .int x2), (3, .int x3), (4, .int x4), (5, .int x5)] [] (by rfl) (fun c => ?_) (fun c => ?_)
                ·
                  have c139 : (i 6784).toInt ≠ (2 : Int32).toInt := kd_ne c; clear c
                  exact (oz1271 c138 c139 fi_6784.2 kn2).elim
                ·
                  have c140 : (i 6784).toInt = (2 : Int32).toInt := kd_neF c; clear c
                  have fi_6786 : ((0 : Int) ≤ (i 6786).toInt) ∧ ((i 6786).toInt ≤ 4) := hG.I.1 6786
                  first | refine ft_go mi_k117 4 79 [(7, .ref 106), (6, .ref 106), (0, .ref 0), (1, .int x1), (2, .int x2), (3, .int x3), (4, .int x4), (5, .int x5)] [.int (i 6786), .int (i 6786)] i a q r (by rfl) ?_ | refine ko_steps mi_in117 4 _ (79, [(7, .ref 106), (6, .ref 106), (0, .ref 0), (1, .int x1), (2, .int x2), (3, .int x3), (4, .int x4), (5, .int x5)], [.int (i 6786), .int (i 6786)], (0, 0), ks i a q r) (by rfl) ?_
                  refine ft_if mi_k117 ((i 6786) == (i 6786)) 85 82 [(7, .ref 106), (6, .ref 106), (0, .ref 0), (1, .int x1), (2, .int x2), (3, .int x3), (4, .int x4), (5, .int x5)] [] (by rfl) (fun c => ?_) (fun c => ?_)
                  ·
                    have c141 : (i 6786).toInt = (i 6786).toInt := kd_eq c; clear c
                    first | refine ft_go mi_k117 3 90 [(7, .ref 106), (6, .ref 106), (0, .ref 0), (1, .int x1), (2, .int x2), (3, .int x3), (4, .int x4), (5, .int x5)] [.int x5, .int x2, .ref 106] i a q r (by rfl) ?_ | refine ko_steps mi_in117 3 _ (90, [(7, .ref 106), (6, .ref 106), (0, .ref 0), (1, .int x1), (2, .int x2), (3, .int x3), (4, .int x4), (5, .int x5)], [.int x5, .int x2, .ref 106], (0, 0), ks i a q r) (by rfl) ?_
                    refine ko_callPI mi_k117.1 (pc := 90) (ls := [(7, .ref 106), (6, .ref 106), (0, .ref 0), (1, .int x1), (2, .int x2), (3, .int x3), (4, .int x4), (5, .int x5)]) (st := [.int x5, .int x2, .ref 106]) (h := ks i a q r) (i := (.invokevirtual 324, 3, 37, 0, 9, 0, 316)) (mi_k117.2 _ _ (by rfl)) (ft_invS mi_pq37 (by rfl)) (cy := mi_c37) mi_pq37 rfl (kc37_106 hG.I hG.R x2 x5) (by decide) ?_
                    intro vg142 hg142
                    rcases hg142 with ⟨eg142, hg142⟩ | ⟨eg142, hg142⟩
                    ·
                      subst eg142
                      have fi_6787 : ((0 : Int) ≤ (i 6787).toInt) ∧ ((i 6787).toInt ≤ 60) := hG.I.1 6787
                      have z143 : ((0 : Int) ≤ x5.toInt) ∧ (x5.toInt ≤ (i 6787).toInt) ∧ ((0 : Int) ≤ x2.toInt) ∧ ((x2.toInt + x5.toInt) ≤ (i 6787).toInt) := hg142
                      first | refine ft_go mi_k117 4 102 [(7, .ref 106), (6, .ref 106), (0, .ref 0), (1, .int x1), (2, .int x2), (3, .int x3), (4, .int x4), (5, .int x5)] [.int x5, .int x4, .ref 106] i a q r (by rfl) ?_ | refine ko_steps mi_in117 4 _ (102, [(7, .ref 106), (6, .ref 106), (0, .ref 0), (1, .int x1), (2, .int x2), (3, .int x3), (4, .int x4), (5, .int x5)], [.int x5, .int x4, .ref 106], (0, 0), ks i a q r) (by rfl) ?_
                      refine ko_callPI mi_k117.1 (pc := 102) (ls := [(7, .ref 106), (6, .ref 106), (0, .ref 0), (1, .int x1), (2, .int x2), (3, .int x3), (4, .int x4), (5, .int x5)]) (st := [.int x5, .int x4, .ref 106]) (h := ks i a q r) (i := (.invokevirtual 324, 3, 37, 0, 9, 0, 316)) (mi_k117.2 _ _ (by rfl)) (ft_invS mi_pq37 (by rfl)) (cy := mi_c37) mi_pq37 rfl (kc37_106 hG.I hG.R x4 x5) (by decide) ?_
                      intro vg144 hg144
                      rcases hg144 with ⟨eg144, hg144⟩ | ⟨eg144, hg144⟩
                      ·
                        subst eg144
                        have z145 : ((0 : Int) ≤ x5.toInt) ∧ (x5.toInt ≤ (i 6787).toInt) ∧ ((0 : Int) ≤ x4.toInt) ∧ ((x4.toInt + x5.toInt) ≤ (i 6787).toInt) := hg144
                        first | refine ft_go mi_k117 8 126 [(7, .ref 106), (6, .ref 106), (0, .ref 0), (1, .int x1), (2, .int x2), (3, .int x3), (4, .int x4), (5, .int x5)] [.int x5, .int x4, .ref 107, .int x2, .ref 107] i a q r (by rfl) ?_ | refine ko_steps mi_in117 8 _ (126, [(7, .ref 106), (6, .ref 106), (0, .ref 0), (1, .int x1), (2, .int x2), (3, .int x3), (4, .int x4), (5, .int x5)], [.int x5, .int x4, .ref 107, .int x2, .ref 107], (0, 0), ks i a q r) (by rfl) ?_
                        have hJ146 := kG_q hG 107 rfl (z := mi_cpy (q 107) (q 107) x2.toNatClampNeg x4.toNatClampNeg x5.toNatClampNeg) (kcpy_len2 (n := 60) (c := 60) (m := 60) (b := 60) (sp := x2) (dp := x4) (n1 := x5) (hG.I.2.2.2 107) rfl (hG.I.2.2.2 107) rfl (oz3 z143.1) (oz3 z143.2.2.1) (oz3 z145.2.2.1) (oz1278 fi_6787.2 z143.2.2.2) (oz1278 fi_6787.2 z145.2.2.2))
                        refine ko_copyL2 mi_k117.1 (l := q 107) (g := q 107) (n := 60) (c := 60) (m := 60) (b := 60) (mi_k117.2 _ _ (by rfl)) (by rfl) (by rfl) (by rfl) (by rfl) (by rfl) (hG.I.2.2.2 107) rfl (hG.I.2.2.2 107) rfl (oz3 z143.1) (oz3 z143.2.2.1) (oz3 z145.2.2.1) (oz1278 fi_6787.2 z143.2.2.2) (oz1278 fi_6787.2 z145.2.2.2) (h5 := ks i a (ku q 107 (mi_cpy (q 107) (q 107) x2.toNatClampNeg x4.toNatClampNeg x5.toNatClampNeg)) r) (by rfl) ?_
                        first | refine ft_go mi_k117 1 131 [(7, .ref 106), (6, .ref 106), (0, .ref 0), (1, .int x1), (2, .int x2), (3, .int x3), (4, .int x4), (5, .int x5)] [.int x5] i a (ku q 107 (mi_cpy (q 107) (q 107) x2.toNatClampNeg x4.toNatClampNeg x5.toNatClampNeg)) r (by rfl) ?_ | refine ko_steps mi_in117 1 _ (131, [(7, .ref 106), (6, .ref 106), (0, .ref 0), (1, .int x1), (2, .int x2), (3, .int x3), (4, .int x4), (5, .int x5)], [.int x5], (0, 0), ks i a (ku q 107 (mi_cpy (q 107) (q 107) x2.toNatClampNeg x4.toNatClampNeg x5.toNatClampNeg)) r) (by rfl) ?_
                        exact ft_ret mi_k117 (by rfl) (hP x5 _ _ _ _ hJ146 trivial)
                      ·
                        subst eg144
                        have z147 : ¬ (((0 : Int) ≤ x5.toInt) ∧ (x5.toInt ≤ (i 6787).toInt) ∧ ((0 : Int) ≤ x4.toInt) ∧ ((x4.toInt + x5.toInt) ≤ (i 6787).toInt)) := hg144
                        first | refine ft_go mi_k117 2 110 [(7, .ref 106), (6, .ref 106), (0, .ref 0), (1, .int x1), (2, .int x2), (3, .int x3), (4, .int x4), (5, .int x5)] [.int (-13)] i a q r (by rfl) ?_ | refine ko_steps mi_in117 2 _ (110, [(7, .ref 106), (6, .ref 106), (0, .ref 0), (1, .int x1), (2, .int x2), (3, .int x3), (4, .int x4), (5, .int x5)], [.int (-13)], (0, 0), ks i a q r) (by rfl) ?_
                        exact ft_ret mi_k117 (by rfl) (hP (-13) _ _ _ _ hG trivial)
                    ·
                      subst eg142
                      have fi_6787 : ((0 : Int) ≤ (i 6787).toInt) ∧ ((i 6787).toInt ≤ 60) := hG.I.1 6787
                      have z148 : ¬ (((0 : Int) ≤ x5.toInt) ∧ (x5.toInt ≤ (i 6787).toInt) ∧ ((0 : Int) ≤ x2.toInt) ∧ ((x2.toInt + x5.toInt) ≤ (i 6787).toInt)) := hg142
                      first | refine ft_go mi_k117 2 110 [(7, .ref 106), (6, .ref 106), (0, .ref 0), (1, .int x1), (2, .int x2), (3, .int x3), (4, .int x4), (5, .int x5)] [.int (-13)] i a q r (by rfl) ?_ | refine ko_steps mi_in117 2 _ (110, [(7, .ref 106), (6, .ref 106), (0, .ref 0), (1, .int x1), (2, .int x2), (3, .int x3), (4, .int x4), (5, .int x5)], [.int (-13)], (0, 0), ks i a q r) (by rfl) ?_
                      exact ft_ret mi_k117 (by rfl) (hP (-13) _ _ _ _ hG trivial)
                  ·
                    have c149 : (i 6786).toInt ≠ (i 6786).toInt := kd_eqF c; clear c
                    exact (oz1279 c149).elim
            ·
              have c150 : (i 6784).toInt = (0 : Int32).toInt := kd_neF c; clear c
              exact (oz1281 c135 c150 fi_6784.1 kn0).elim
        by_cases w151 : x3.toInt = 2
        ·
          refine ko_eq (x1 := (29, [(6, .ref 106), (0, .ref 0), (1, .int x1), (2, .int x2), (3, .int x3), (4, .int x4), (5, .int x5)], [.int 2, .ref 97], (0, 0), ks i a q r)) (by rw [(kj_eq w151 (by decide) : x3 = 2)]) ?_
          have fi_6784 : ((0 : Int) ≤ (i 6784).toInt) ∧ ((i 6784).toInt ≤ 2) := hG.I.1 6784
          first | refine ft_go mi_k117 4 37 [(7, .ref 108), (6, .ref 106), (0, .ref 0), (1, .int x1), (2, .int x2), (3, .int x3), (4, .int x4), (5, .int x5)] [.int (i 6784)] i a q r (by rfl) ?_ | refine ko_steps mi_in117 4 _ (37, [(7, .ref 108), (6, .ref 106), (0, .ref 0), (1, .int x1), (2, .int x2), (3, .int x3), (4, .int x4), (5, .int x5)], [.int (i 6784)], (0, 0), ks i a q r) (by rfl) ?_
          refine ft_if mi_k117 ((i 6784) == 0) 48 40 [(7, .ref 108), (6, .ref 106), (0, .ref 0), (1, .int x1), (2, .int x2), (3, .int x3), (4, .int x4), (5, .int x5)] [] (by rfl) (fun c => ?_) (fun c => ?_)
          ·
            have c152 : (i 6784).toInt = (0 : Int32).toInt := kd_eq c; clear c
            first | refine ft_go mi_k117 1 50 [(7, .ref 108), (6, .ref 106), (0, .ref 0), (1, .int x1), (2, .int x2), (3, .int x3), (4, .int x4), (5, .int x5)] [.int (-11)] i a q r (by rfl) ?_ | refine ko_steps mi_in117 1 _ (50, [(7, .ref 108), (6, .ref 106), (0, .ref 0), (1, .int x1), (2, .int x2), (3, .int x3), (4, .int x4), (5, .int x5)], [.int (-11)], (0, 0), ks i a q r) (by rfl) ?_
            exact ft_ret mi_k117 (by rfl) (hP (-11) _ _ _ _ hG trivial)
          ·
            have c153 : (i 6784).toInt ≠ (0 : Int32).toInt := kd_eqF c; clear c
            have fi_6912 : ((0 : Int) ≤ (i 6912).toInt) ∧ ((i 6912).toInt ≤ 2) := hG.I.1 6912
            first | refine ft_go mi_k117 2 45 [(7, .ref 108), (6, .ref 106), (0, .ref 0), (1, .int x1), (2, .int x2), (3, .int x3), (4, .int x4), (5, .int x5)] [.int (i 6912)] i a q r (by rfl) ?_ | refine ko_steps mi_in117 2 _ (45, [(7, .ref 108), (6, .ref 106), (0, .ref 0), (1, .int x1), (2, .int x2), (3, .int x3), (4, .int x4), (5, .int x5)], [.int (i 6912)], (0, 0), ks i a q r) (by rfl) ?_
            refine ft_if mi_k117 ((i 6912) != 0) 51 48 [(7, .ref 108), (6, .ref 106), (0, .ref 0), (1, .int x1), (2, .int x2), (3, .int x3), (4, .int x4), (5, .int x5)] [] (by rfl) (fun c => ?_) (fun c => ?_)
            ·
              have c154 : (i 6912).toInt ≠ (0 : Int32).toInt := kd_ne c; clear c
              first | refine ft_go mi_k117 3 57 [(7, .ref 108), (6, .ref 106), (0, .ref 0), (1, .int x1), (2, .int x2), (3, .int x3), (4, .int x4), (5, .int x5)] [.int 2, .int (i 6784)] i a q r (by rfl) ?_ | refine ko_steps mi_in117 3 _ (57, [(7, .ref 108), (6, .ref 106), (0, .ref 0), (1, .int x1), (2, .int x2), (3, .int x3), (4, .int x4), (5, .int x5)], [.int 2, .int (i 6784)], (0, 0), ks i a q r) (by rfl) ?_
              refine ft_if mi_k117 ((i 6784) != 2) 82 60 [(7, .ref 108), (6, .ref 106), (0, .ref 0), (1, .int x1), (2, .int x2), (3, .int x3), (4, .int x4), (5, .int x5)] [] (by rfl) (fun c => ?_) (fun c => ?_)
              ·
                have c155 : (i 6784).toInt ≠ (2 : Int32).toInt := kd_ne c; clear c
                first | refine ft_go mi_k117 1 84 [(7, .ref 108), (6, .ref 106), (0, .ref 0), (1, .int x1), (2, .int x2), (3, .int x3), (4, .int x4), (5, .int x5)] [.int (-12)] i a q r (by rfl) ?_ | refine ko_steps mi_in117 1 _ (84, [(7, .ref 108), (6, .ref 106), (0, .ref 0), (1, .int x1), (2, .int x2), (3, .int x3), (4, .int x4), (5, .int x5)], [.int (-12)], (0, 0), ks i a q r) (by rfl) ?_
                exact ft_ret mi_k117 (by rfl) (hP (-12) _ _ _ _ hG trivial)
              ·
                have c156 : (i 6784).toInt = (2 : Int32).toInt := kd_neF c; clear c
                first | refine ft_go mi_k117 3 66 [(7, .ref 108), (6, .ref 106), (0, .ref 0), (1, .int x1), (2, .int x2), (3, .int x3), (4, .int x4), (5, .int x5)] [.int 2, .int (i 6912)] i a q r (by rfl) ?_ | refine ko_steps mi_in117 3 _ (66, [(7, .ref 108), (6, .ref 106), (0, .ref 0), (1, .int x1), (2, .int x2), (3, .int x3), (4, .int x4), (5, .int x5)], [.int 2, .int (i 6912)], (0, 0), ks i a q r) (by rfl) ?_
                refine ft_if mi_k117 ((i 6912) != 2) 82 69 [(7, .ref 108), (6, .ref 106), (0, .ref 0), (1, .int x1), (2, .int x2), (3, .int x3), (4, .int x4), (5, .int x5)] [] (by rfl) (fun c => ?_) (fun c => ?_)
                ·
                  have c157 : (i 6912).toInt ≠ (2 : Int32).toInt := kd_ne c; clear c
                  first | refine ft_go mi_k117 1 84 [(7, .ref 108), (6, .ref 106), (0, .ref 0), (1, .int x1), (2, .int x2), (3, .int x3), (4, .int x4), (5, .int x5)] [.int (-12)] i a q r (by rfl) ?_ | refine ko_steps mi_in117 1 _ (84, [(7, .ref 108), (6, .ref 106), (0, .ref 0), (1, .int x1), (2, .int x2), (3, .int x3), (4, .int x4), (5, .int x5)], [.int (-12)], (0, 0), ks i a q r) (by rfl) ?_
                  exact ft_ret mi_k117 (by rfl) (hP (-12) _ _ _ _ hG trivial)
                ·
                  have c158 : (i 6912).toInt = (2 : Int32).toInt := kd_neF c; clear c
                  have fi_6786 : ((0 : Int) ≤ (i 6786).toInt) ∧ ((i 6786).toInt ≤ 4) := hG.I.1 6786
                  have fi_6914 : ((0 : Int) ≤ (i 6914).toInt) ∧ ((i 6914).toInt ≤ 4) := hG.I.1 6914
                  first | refine ft_go mi_k117 4 79 [(7, .ref 108), (6, .ref 106), (0, .ref 0), (1, .int x1), (2, .int x2), (3, .int x3), (4, .int x4), (5, .int x5)] [.int (i 6914), .int (i 6786)] i a q r (by rfl) ?_ | refine ko_steps mi_in117 4 _ (79, [(7, .ref 108), (6, .ref 106), (0, .ref 0), (1, .int x1), (2, .int x2), (3, .int x3), (4, .int x4), (5, .int x5)], [.int (i 6914), .int (i 6786)], (0, 0), ks i a q r) (by rfl) ?_
                  refine ft_if mi_k117 ((i 6786) == (i 6914)) 85 82 [(7, .ref 108), (6, .ref 106), (0, .ref 0), (1, .int x1), (2, .int x2), (3, .int x3), (4, .int x4), (5, .int x5)] [] (by rfl) (fun c => ?_) (fun c => ?_)
                  ·
                    have c159 : (i 6786).toInt = (i 6914).toInt := kd_eq c; clear c
                    first | refine ft_go mi_k117 3 90 [(7, .ref 108), (6, .ref 106), (0, .ref 0), (1, .int x1), (2, .int x2), (3, .int x3), (4, .int x4), (5, .int x5)] [.int x5, .int x2, .ref 106] i a q r (by rfl) ?_ | refine ko_steps mi_in117 3 _ (90, [(7, .ref 108), (6, .ref 106), (0, .ref 0), (1, .int x1), (2, .int x2), (3, .int x3), (4, .int x4), (5, .int x5)], [.int x5, .int x2, .ref 106], (0, 0), ks i a q r) (by rfl) ?_
                    refine ko_callPI mi_k117.1 (pc := 90) (ls := [(7, .ref 108), (6, .ref 106), (0, .ref 0), (1, .int x1), (2, .int x2), (3, .int x3), (4, .int x4), (5, .int x5)]) (st := [.int x5, .int x2, .ref 106]) (h := ks i a q r) (i := (.invokevirtual 324, 3, 37, 0, 9, 0, 316)) (mi_k117.2 _ _ (by rfl)) (ft_invS mi_pq37 (by rfl)) (cy := mi_c37) mi_pq37 rfl (kc37_106 hG.I hG.R x2 x5) (by decide) ?_
                    intro vg160 hg160
                    rcases hg160 with ⟨eg160, hg160⟩ | ⟨eg160, hg160⟩
                    ·
                      subst eg160
                      have fi_6787 : ((0 : Int) ≤ (i 6787).toInt) ∧ ((i 6787).toInt ≤ 60) := hG.I.1 6787
                      have z161 : ((0 : Int) ≤ x5.toInt) ∧ (x5.toInt ≤ (i 6787).toInt) ∧ ((0 : Int) ≤ x2.toInt) ∧ ((x2.toInt + x5.toInt) ≤ (i 6787).toInt) := hg160
                      first | refine ft_go mi_k117 4 102 [(7, .ref 108), (6, .ref 106), (0, .ref 0), (1, .int x1), (2, .int x2), (3, .int x3), (4, .int x4), (5, .int x5)] [.int x5, .int x4, .ref 108] i a q r (by rfl) ?_ | refine ko_steps mi_in117 4 _ (102, [(7, .ref 108), (6, .ref 106), (0, .ref 0), (1, .int x1), (2, .int x2), (3, .int x3), (4, .int x4), (5, .int x5)], [.int x5, .int x4, .ref 108], (0, 0), ks i a q r) (by rfl) ?_
                      refine ko_callPI mi_k117.1 (pc := 102) (ls := [(7, .ref 108), (6, .ref 106), (0, .ref 0), (1, .int x1), (2, .int x2), (3, .int x3), (4, .int x4), (5, .int x5)]) (st := [.int x5, .int x4, .ref 108]) (h := ks i a q r) (i := (.invokevirtual 324, 3, 37, 0, 9, 0, 316)) (mi_k117.2 _ _ (by rfl)) (ft_invS mi_pq37 (by rfl)) (cy := mi_c37) mi_pq37 rfl (kc37_108 hG.I hG.R x4 x5) (by decide) ?_
                      intro vg162 hg162
                      rcases hg162 with ⟨eg162, hg162⟩ | ⟨eg162, hg162⟩
                      ·
                        subst eg162
                        have fi_6915 : ((0 : Int) ≤ (i 6915).toInt) ∧ ((i 6915).toInt ≤ 60) := hG.I.1 6915
                        have z163 : ((0 : Int) ≤ x5.toInt) ∧ (x5.toInt ≤ (i 6915).toInt) ∧ ((0 : Int) ≤ x4.toInt) ∧ ((x4.toInt + x5.toInt) ≤ (i 6915).toInt) := hg162
                        first | refine ft_go mi_k117 8 126 [(7, .ref 108), (6, .ref 106), (0, .ref 0), (1, .int x1), (2, .int x2), (3, .int x3), (4, .int x4), (5, .int x5)] [.int x5, .int x4, .ref 109, .int x2, .ref 107] i a q r (by rfl) ?_ | refine ko_steps mi_in117 8 _ (126, [(7, .ref 108), (6, .ref 106), (0, .ref 0), (1, .int x1), (2, .int x2), (3, .int x3), (4, .int x4), (5, .int x5)], [.int x5, .int x4, .ref 109, .int x2, .ref 107], (0, 0), ks i a q r) (by rfl) ?_
                        have hJ164 := kG_q hG 109 rfl (z := mi_cpy (q 107) (q 109) x2.toNatClampNeg x4.toNatClampNeg x5.toNatClampNeg) (kcpy_len2 (n := 60) (c := 60) (m := 60) (b := 60) (sp := x2) (dp := x4) (n1 := x5) (hG.I.2.2.2 107) rfl (hG.I.2.2.2 109) rfl (oz3 z161.1) (oz3 z161.2.2.1) (oz3 z163.2.2.1) (oz1278 fi_6787.2 z161.2.2.2) (oz1278 fi_6915.2 z163.2.2.2))
                        refine ko_copyL2 mi_k117.1 (l := q 107) (g := q 109) (n := 60) (c := 60) (m := 60) (b := 60) (mi_k117.2 _ _ (by rfl)) (by rfl) (by rfl) (by rfl) (by rfl) (by rfl) (hG.I.2.2.2 107) rfl (hG.I.2.2.2 109) rfl (oz3 z161.1) (oz3 z161.2.2.1) (oz3 z163.2.2.1) (oz1278 fi_6787.2 z161.2.2.2) (oz1278 fi_6915.2 z163.2.2.2) (h5 := ks i a (ku q 109 (mi_cpy (q 107) (q 109) x2.toNatClampNeg x4.toNatClampNeg x5.toNatClampNeg)) r) (by rfl) ?_
                        first | refine ft_go mi_k117 1 131 [(7, .ref 108), (6, .ref 106), (0, .ref 0), (1, .int x1), (2, .int x2), (3, .int x3), (4, .int x4), (5, .int x5)] [.int x5] i a (ku q 109 (mi_cpy (q 107) (q 109) x2.toNatClampNeg x4.toNatClampNeg x5.toNatClampNeg)) r (by rfl) ?_ | refine ko_steps mi_in117 1 _ (131, [(7, .ref 108), (6, .ref 106), (0, .ref 0), (1, .int x1), (2, .int x2), (3, .int x3), (4, .int x4), (5, .int x5)], [.int x5], (0, 0), ks i a (ku q 109 (mi_cpy (q 107) (q 109) x2.toNatClampNeg x4.toNatClampNeg x5.toNatClampNeg)) r) (by rfl) ?_
                        exact ft_ret mi_k117 (by rfl) (hP x5 _ _ _ _ hJ164 trivial)
                      ·
                        subst eg162
                        have fi_6915 : ((0 : Int) ≤ (i 6915).toInt) ∧ ((i 6915).toInt ≤ 60) := hG.I.1 6915
                        have z165 : ¬ (((0 : Int) ≤ x5.toInt) ∧ (x5.toInt ≤ (i 6915).toInt) ∧ ((0 : Int) ≤ x4.toInt) ∧ ((x4.toInt + x5.toInt) ≤ (i 6915).toInt)) := hg162
                        first | refine ft_go mi_k117 2 110 [(7, .ref 108), (6, .ref 106), (0, .ref 0), (1, .int x1), (2, .int x2), (3, .int x3), (4, .int x4), (5, .int x5)] [.int (-13)] i a q r (by rfl) ?_ | refine ko_steps mi_in117 2 _ (110, [(7, .ref 108), (6, .ref 106), (0, .ref 0), (1, .int x1), (2, .int x2), (3, .int x3), (4, .int x4), (5, .int x5)], [.int (-13)], (0, 0), ks i a q r) (by rfl) ?_
                        exact ft_ret mi_k117 (by rfl) (hP (-13) _ _ _ _ hG trivial)
                    ·
                      subst eg160
                      have fi_6787 : ((0 : Int) ≤ (i 6787).toInt) ∧ ((i 6787).toInt ≤ 60) := hG.I.1 6787
                      have z166 : ¬ (((0 : Int) ≤ x5.toInt) ∧ (x5.toInt ≤ (i 6787).toInt) ∧ ((0 : Int) ≤ x2.toInt) ∧ ((x2.toInt + x5.toInt) ≤ (i 6787).toInt)) := hg160
                      first | refine ft_go mi_k117 2 110 [(7, .ref 108), (6, .ref 106), (0, .ref 0), (1, .int x1), (2, .int x2), (3, .int x3), (4, .int x4), (5, .int x5)] [.int (-13)] i a q r (by rfl) ?_ | refine ko_steps mi_in117 2 _ (110, [(7, .ref 108), (6, .ref 106), (0, .ref 0), (1, .int x1), (2, .int x2), (3, .int x3), (4, .int x4), (5, .int x5)], [.int (-13)], (0, 0), ks i a q r) (by rfl) ?_
                      exact ft_ret mi_k117 (by rfl) (hP (-13) _ _ _ _ hG trivial)
                  ·
                    have c167 : (i 6786).toInt ≠ (i 6914).toInt := kd_eqF c; clear c
                    first | refine ft_go mi_k117 1 84 [(7, .ref 108), (6, .ref 106), (0, .ref 0), (1, .int x1), (2, .int x2), (3, .int x3), (4, .int x4), (5, .int x5)] [.int (-12)] i a q r (by rfl) ?_ | refine ko_steps mi_in117 1 _ (84, [(7, .ref 108), (6, .ref 106), (0, .ref 0), (1, .int x1), (2, .int x2), (3, .int x3), (4, .int x4), (5, .int x5)], [.int (-12)], (0, 0), ks i a q r) (by rfl) ?_
                    exact ft_ret mi_k117 (by rfl) (hP (-12) _ _ _ _ hG trivial)
            ·
              have c168 : (i 6912).toInt = (0 : Int32).toInt := kd_neF c; clear c
              first | refine ft_go mi_k117 1 50 [(7, .ref 108), (6, .ref 106), (0, .ref 0), (1, .int x1), (2, .int x2), (3, .int x3), (4, .int x4), (5, .int x5)] [.int (-11)] i a q r (by rfl) ?_ | refine ko_steps mi_in117 1 _ (50, [(7, .ref 108), (6, .ref 106), (0, .ref 0), (1, .int x1), (2, .int x2), (3, .int x3), (4, .int x4), (5, .int x5)], [.int (-11)], (0, 0), ks i a q r) (by rfl) ?_
              exact ft_ret mi_k117 (by rfl) (hP (-11) _ _ _ _ hG trivial)
        by_cases w169 : x3.toInt = 3
        ·
          refine ko_eq (x1 := (29, [(6, .ref 106), (0, .ref 0), (1, .int x1), (2, .int x2), (3, .int x3), (4, .int x4), (5, .int x5)], [.int 3, .ref 97], (0, 0), ks i a q r)) (by rw [(kj_eq w169 (by decide) : x3 = 3)]) ?_
          have fi_6784 : ((0 : Int) ≤ (i 6784).toInt) ∧ ((i 6784).toInt ≤ 2) := hG.I.1 6784
          first | refine ft_go mi_k117 4 37 [(7, .ref 110), (6, .ref 106), (0, .ref 0), (1, .int x1), (2, .int x2), (3, .int x3), (4, .int x4), (5, .int x5)] [.int (i 6784)] i a q r (by rfl) ?_ | refine ko_steps mi_in117 4 _ (37, [(7, .ref 110), (6, .ref 106), (0, .ref 0), (1, .int x1), (2, .int x2), (3, .int x3), (4, .int x4), (5, .int x5)], [.int (i 6784)], (0, 0), ks i a q r) (by rfl) ?_
          refine ft_if mi_k117 ((i 6784) == 0) 48 40 [(7, .ref 110), (6, .ref 106), (0, .ref 0), (1, .int x1), (2, .int x2), (3, .int x3), (4, .int x4), (5, .int x5)] [] (by rfl) (fun c => ?_) (fun c => ?_)
          ·
            have c170 : (i 6784).toInt = (0 : Int32).toInt := kd_eq c; clear c
            first | refine ft_go mi_k117 1 50 [(7, .ref 110), (6, .ref 106), (0, .ref 0), (1, .int x1), (2, .int x2), (3, .int x3), (4, .int x4), (5, .int x5)] [.int (-11)] i a q r (by rfl) ?_ | refine ko_steps mi_in117 1 _ (50, [(7, .ref 110), (6, .ref 106), (0, .ref 0), (1, .int x1), (2, .int x2), (3, .int x3), (4, .int x4), (5, .int x5)], [.int (-11)], (0, 0), ks i a q r) (by rfl) ?_
            exact ft_ret mi_k117 (by rfl) (hP (-11) _ _ _ _ hG trivial)
          ·
            have c171 : (i 6784).toInt ≠ (0 : Int32).toInt := kd_eqF c; clear c
            have fi_7040 : ((0 : Int) ≤ (i 7040).toInt) ∧ ((i 7040).toInt ≤ 2) := hG.I.1 7040
            first | refine ft_go mi_k117 2 45 [(7, .ref 110), (6, .ref 106), (0, .ref 0), (1, .int x1), (2, .int x2), (3, .int x3), (4, .int x4), (5, .int x5)] [.int (i 7040)] i a q r (by rfl) ?_ | refine ko_steps mi_in117 2 _ (45, [(7, .ref 110), (6, .ref 106), (0, .ref 0), (1, .int x1), (2, .int x2), (3, .int x3), (4, .int x4), (5, .int x5)], [.int (i 7040)], (0, 0), ks i a q r) (by rfl) ?_
            refine ft_if mi_k117 ((i 7040) != 0) 51 48 [(7, .ref 110), (6, .ref 106), (0, .ref 0), (1, .int x1), (2, .int x2), (3, .int x3), (4, .int x4), (5, .int x5)] [] (by rfl) (fun c => ?_) (fun c => ?_)
            ·
              have c172 : (i 7040).toInt ≠ (0 : Int32).toInt := kd_ne c; clear c
              first | refine ft_go mi_k117 3 57 [(7, .ref 110), (6, .ref 106), (0, .ref 0), (1, .int x1), (2, .int x2), (3, .int x3), (4, .int x4), (5, .int x5)] [.int 2, .int (i 6784)] i a q r (by rfl) ?_ | refine ko_steps mi_in117 3 _ (57, [(7, .ref 110), (6, .ref 106), (0, .ref 0), (1, .int x1), (2, .int x2), (3, .int x3), (4, .int x4), (5, .int x5)], [.int 2, .int (i 6784)], (0, 0), ks i a q r) (by rfl) ?_
              refine ft_if mi_k117 ((i 6784) != 2) 82 60 [(7, .ref 110), (6, .ref 106), (0, .ref 0), (1, .int x1), (2, .int x2), (3, .int x3), (4, .int x4), (5, .int x5)] [] (by rfl) (fun c => ?_) (fun c => ?_)
              ·
                have c173 : (i 6784).toInt ≠ (2 : Int32).toInt := kd_ne c; clear c
                first | refine ft_go mi_k117 1 84 [(7, .ref 110), (6, .ref 106), (0, .ref 0), (1, .int x1), (2, .int x2), (3, .int x3), (4, .int x4), (5, .int x5)] [.int (-12)] i a q r (by rfl) ?_ | refine ko_steps mi_in117 1 _ (84, [(7, .ref 110), (6, .ref 106), (0, .ref 0), (1, .int x1), (2, .int x2), (3, .int x3), (4, .int x4), (5, .int x5)], [.int (-12)], (0, 0), ks i a q r) (by rfl) ?_
                exact ft_ret mi_k117 (by rfl) (hP (-12) _ _ _ _ hG trivial)
              ·
                have c174 : (i 6784).toInt = (2 : Int32).toInt := kd_neF c; clear c
                first | refine ft_go mi_k117 3 66 [(7, .ref 110), (6, .ref 106), (0, .ref 0), (1, .int x1), (2, .int x2), (3, .int x3), (4, .int x4), (5, .int x5)] [.int 2, .int (i 7040)] i a q r (by rfl) ?_ | refine ko_steps mi_in117 3 _ (66, [(7, .ref 110), (6, .ref 106), (0, .ref 0), (1, .int x1), (2, .int x2), (3, .int x3), (4, .int x4), (5, .int x5)], [.int 2, .int (i 7040)], (0, 0), ks i a q r) (by rfl) ?_
                refine ft_if mi_k117 ((i 7040) != 2) 82 69 [(7, .ref 110), (6, .ref 106), (0, .ref 0), (1, .int x1), (2, .int x2), (3, .int x3), (4, .int x4), (5, .int x5)] [] (by rfl) (fun c => ?_) (fun c => ?_)
                ·
                  have c175 : (i 7040).toInt ≠ (2 : Int32).toInt := kd_ne c; clear c
                  first | refine ft_go mi_k117 1 84 [(7, .ref 110), (6, .ref 106), (0, .ref 0), (1, .int x1), (2, .int x2), (3, .int x3), (4, .int x4), (5, .int x5)] [.int (-12)] i a q r (by rfl) ?_ | refine ko_steps mi_in117 1 _ (84, [(7, .ref 110), (6, .ref 106), (0, .ref 0), (1, .int x1), (2, .int x2), (3, .int x3), (4, .int x4), (5, .int x5)], [.int (-12)], (0, 0), ks i a q r) (by rfl) ?_
                  exact ft_ret mi_k117 (by rfl) (hP (-12) _ _ _ _ hG trivial)
                ·
                  have c176 : (i 7040).toInt = (2 : Int32).toInt := kd_neF c; clear c
                  have fi_6786 : ((0 : Int) ≤ (i 6786).toInt) ∧ ((i 6786).toInt ≤ 4) := hG.I.1 6786
                  have fi_7042 : ((0 : Int) ≤ (i 7042).toInt) ∧ ((i 7042).toInt ≤ 4) := hG.I.1 7042
                  first | refine ft_go mi_k117 4 79 [(7, .ref 110), (6, .ref 106), (0, .ref 0), (1, .int x1), (2, .int x2), (3, .int x3), (4, .int x4), (5, .int x5)] [.int (i 7042), .int (i 6786)] i a q r (by rfl) ?_ | refine ko_steps mi_in117 4 _ (79, [(7, .ref 110), (6, .ref 106), (0, .ref 0), (1, .int x1), (2, .int x2), (3, .int x3), (4, .int x4), (5, .int x5)], [.int (i 7042), .int (i 6786)], (0, 0), ks i a q r) (by rfl) ?_
                  refine ft_if mi_k117 ((i 6786) == (i 7042)) 85 82 [(7, .ref 110), (6, .ref 106), (0, .ref 0), (1, .int x1), (2, .int x2), (3, .int x3), (4, .int x4), (5, .int x5)] [] (by rfl) (fun c => ?_) (fun c => ?_)
                  ·
                    have c177 : (i 6786).toInt = (i 7042).toInt := kd_eq c; clear c
                    first | refine ft_go mi_k117 3 90 [(7, .ref 110), (6, .ref 106), (0, .ref 0), (1, .int x1), (2, .int x2), (3, .int x3), (4, .int x4), (5, .int x5)] [.int x5, .int x2, .ref 106] i a q r (by rfl) ?_ | refine ko_steps mi_in117 3 _ (90, [(7, .ref 110), (6, .ref 106), (0, .ref 0), (1, .int x1), (2, .int x2), (3, .int x3), (4, .int x4), (5, .int x5)], [.int x5, .int x2, .ref 106], (0, 0), ks i a q r) (by rfl) ?_
                    refine ko_callPI mi_k117.1 (pc := 90) (ls := [(7, .ref 110), (6, .ref 106), (0, .ref 0), (1, .int x1), (2, .int x2), (3, .int x3), (4, .int x4), (5, .int x5)]) (st := [.int x5, .int x2, .ref 106]) (h := ks i a q r) (i := (.invokevirtual 324, 3, 37, 0, 9, 0, 316)) (mi_k117.2 _ _ (by rfl)) (ft_invS mi_pq37 (by rfl)) (cy := mi_c37) mi_pq37 rfl (kc37_106 hG.I hG.R x2 x5) (by decide) ?_
                    intro vg178 hg178
                    rcases hg178 with ⟨eg178, hg178⟩ | ⟨eg178, hg178⟩
                    ·
                      subst eg178
                      have fi_6787 : ((0 : Int) ≤ (i 6787).toInt) ∧ ((i 6787).toInt ≤ 60) := hG.I.1 6787
                      have z179 : ((0 : Int) ≤ x5.toInt) ∧ (x5.toInt ≤ (i 6787).toInt) ∧ ((0 : Int) ≤ x2.toInt) ∧ ((x2.toInt + x5.toInt) ≤ (i 6787).toInt) := hg178
                      first | refine ft_go mi_k117 4 102 [(7, .ref 110), (6, .ref 106), (0, .ref 0), (1, .int x1), (2, .int x2), (3, .int x3), (4, .int x4), (5, .int x5)] [.int x5, .int x4, .ref 110] i a q r (by rfl) ?_ | refine ko_steps mi_in117 4 _ (102, [(7, .ref 110), (6, .ref 106), (0, .ref 0), (1, .int x1), (2, .int x2), (3, .int x3), (4, .int x4), (5, .int x5)], [.int x5, .int x4, .ref 110], (0, 0), ks i a q r) (by rfl) ?_
                      refine ko_callPI mi_k117.1 (pc := 102) (ls := [(7, .ref 110), (6, .ref 106), (0, .ref 0), (1, .int x1), (2, .int x2), (3, .int x3), (4, .int x4), (5, .int x5)]) (st := [.int x5, .int x4, .ref 110]) (h := ks i a q r) (i := (.invokevirtual 324, 3, 37, 0, 9, 0, 316)) (mi_k117.2 _ _ (by rfl)) (ft_invS mi_pq37 (by rfl)) (cy := mi_c37) mi_pq37 rfl (kc37_110 hG.I hG.R x4 x5) (by decide) ?_
                      intro vg180 hg180
                      rcases hg180 with ⟨eg180, hg180⟩ | ⟨eg180, hg180⟩
                      ·
                        subst eg180
                        have fi_7043 : ((0 : Int) ≤ (i 7043).toInt) ∧ ((i 7043).toInt ≤ 60) := hG.I.1 7043
                        have z181 : ((0 : Int) ≤ x5.toInt) ∧ (x5.toInt ≤ (i 7043).toInt) ∧ ((0 : Int) ≤ x4.toInt) ∧ ((x4.toInt + x5.toInt) ≤ (i 7043).toInt) := hg180
                        first | refine ft_go mi_k117 8 126 [(7, .ref 110), (6, .ref 106), (0, .ref 0), (1, .int x1), (2, .int x2), (3, .int x3), (4, .int x4), (5, .int x5)] [.int x5, .int x4, .ref 111, .int x2, .ref 107] i a q r (by rfl) ?_ | refine ko_steps mi_in117 8 _ (126, [(7, .ref 110), (6, .ref 106), (0, .ref 0), (1, .int x1), (2, .int x2), (3, .int x3), (4, .int x4), (5, .int x5)], [.int x5, .int x4, .ref 111, .int x2, .ref 107], (0, 0), ks i a q r) (by rfl) ?_
                        have hJ182 := kG_q hG 111 rfl (z := mi_cpy (q 107) (q 111) x2.toNatClampNeg x4.toNatClampNeg x5.toNatClampNeg) (kcpy_len2 (n := 60) (c := 60) (m := 60) (b := 60) (sp := x2) (dp := x4) (n1 := x5) (hG.I.2.2.2 107) rfl (hG.I.2.2.2 111) rfl (oz3 z179.1) (oz3 z179.2.2.1) (oz3 z181.2.2.1) (oz1278 fi_6787.2 z179.2.2.2) (oz1278 fi_7043.2 z181.2.2.2))
                        refine ko_copyL2 mi_k117.1 (l := q 107) (g := q 111) (n := 60) (c := 60) (m := 60) (b := 60) (mi_k117.2 _ _ (by rfl)) (by rfl) (by rfl) (by rfl) (by rfl) (by rfl) (hG.I.2.2.2 107) rfl (hG.I.2.2.2 111) rfl (oz3 z179.1) (oz3 z179.2.2.1) (oz3 z181.2.2.1) (oz1278 fi_6787.2 z179.2.2.2) (oz1278 fi_7043.2 z181.2.2.2) (h5 := ks i a (ku q 111 (mi_cpy (q 107) (q 111) x2.toNatClampNeg x4.toNatClampNeg x5.toNatClampNeg)) r) (by rfl) ?_
                        first | refine ft_go mi_k117 1 131 [(7, .ref 110), (6, .ref 106), (0, .ref 0), (1, .int x1), (2, .int x2), (3, .int x3), (4, .int x4), (5, .int x5)] [.int x5] i a (ku q 111 (mi_cpy (q 107) (q 111) x2.toNatClampNeg x4.toNatClampNeg x5.toNatClampNeg)) r (by rfl) ?_ | refine ko_steps mi_in117 1 _ (131, [(7, .ref 110), (6, .ref 106), (0, .ref 0), (1, .int x1), (2, .int x2), (3, .int x3), (4, .int x4), (5, .int x5)], [.int x5], (0, 0), ks i a (ku q 111 (mi_cpy (q 107) (q 111) x2.toNatClampNeg x4.toNatClampNeg x5.toNatClampNeg)) r) (by rfl) ?_
                        exact ft_ret mi_k117 (by rfl) (hP x5 _ _ _ _ hJ182 trivial)
                      ·
                        subst eg180
                        have fi_7043 : ((0 : Int) ≤ (i 7043).toInt) ∧ ((i 7043).toInt ≤ 60) := hG.I.1 7043
                        have z183 : ¬ (((0 : Int) ≤ x5.toInt) ∧ (x5.toInt ≤ (i 7043).toInt) ∧ ((0 : Int) ≤ x4.toInt) ∧ ((x4.toInt + x5.toInt) ≤ (i 7043).toInt)) := hg180
                        first | refine ft_go mi_k117 2 110 [(7, .ref 110), (6, .ref 106), (0, .ref 0), (1, .int x1), (2, .int x2), (3, .int x3), (4, .int x4), (5, .int x5)] [.int (-13)] i a q r (by rfl) ?_ | refine ko_steps mi_in117 2 _ (110, [(7, .ref 110), (6, .ref 106), (0, .ref 0), (1, .int x1), (2, .int x2), (3, .int x3), (4, .int x4), (5, .int x5)], [.int (-13)], (0, 0), ks i a q r) (by rfl) ?_
                        exact ft_ret mi_k117 (by rfl) (hP (-13) _ _ _ _ hG trivial)
                    ·
                      subst eg178
                      have fi_6787 : ((0 : Int) ≤ (i 6787).toInt) ∧ ((i 6787).toInt ≤ 60) := hG.I.1 6787
                      have z184 : ¬ (((0 : Int) ≤ x5.toInt) ∧ (x5.toInt ≤ (i 6787).toInt) ∧ ((0 : Int) ≤ x2.toInt) ∧ ((x2.toInt + x5.toInt) ≤ (i 6787).toInt)) := hg178
                      first | refine ft_go mi_k117 2 110 [(7, .ref 110), (6, .ref 106), (0, .ref 0), (1, .int x1), (2, .int x2), (3, .int x3), (4, .int x4), (5, .int x5)] [.int (-13)] i a q r (by rfl) ?_ | refine ko_steps mi_in117 2 _ (110, [(7, .ref 110), (6, .ref 106), (0, .ref 0), (1, .int x1), (2, .int x2), (3, .int x3), (4, .int x4), (5, .int x5)], [.int (-13)], (0, 0), ks i a q r) (by rfl) ?_
                      exact ft_ret mi_k117 (by rfl) (hP (-13) _ _ _ _ hG trivial)
                  ·
                    have c185 : (i 6786).toInt ≠ (i 7042).toInt := kd_eqF c; clear c
                    first | refine ft_go mi_k117 1 84 [(7, .ref 110), (6, .ref 106), (0, .ref 0), (1, .int x1), (2, .int x2), (3, .int x3), (4, .int x4), (5, .int x5)] [.int (-12)] i a q r (by rfl) ?_ | refine ko_steps mi_in117 1 _ (84, [(7, .ref 110), (6, .ref 106), (0, .ref 0), (1, .int x1), (2, .int x2), (3, .int x3), (4, .int x4), (5, .int x5)], [.int (-12)], (0, 0), ks i a q r) (by rfl) ?_
                    exact ft_ret mi_k117 (by rfl) (hP (-12) _ _ _ _ hG trivial)
            ·
              have c186 : (i 7040).toInt = (0 : Int32).toInt := kd_neF c; clear c
              first | refine ft_go mi_k117 1 50 [(7, .ref 110), (6, .ref 106), (0, .ref 0), (1, .int x1), (2, .int x2), (3, .int x3), (4, .int x4), (5, .int x5)] [.int (-11)] i a q r (by rfl) ?_ | refine ko_steps mi_in117 1 _ (50, [(7, .ref 110), (6, .ref 106), (0, .ref 0), (1, .int x1), (2, .int x2), (3, .int x3), (4, .int x4), (5, .int x5)], [.int (-11)], (0, 0), ks i a q r) (by rfl) ?_
              exact ft_ret mi_k117 (by rfl) (hP (-11) _ _ _ _ hG trivial)
        by_cases w187 : x3.toInt = 4
        ·
          refine ko_eq (x1 := (29, [(6, .ref 106), (0, .ref 0), (1, .int x1), (2, .int x2), (3, .int x3), (4, .int x4), (5, .int x5)], [.int 4, .ref 97], (0, 0), ks i a q r)) (by rw [(kj_eq w187 (by decide) : x3 = 4)]) ?_
          have fi_6784 : ((0 : Int) ≤ (i 6784).toInt) ∧ ((i 6784).toInt ≤ 2) := hG.I.1 6784
          first | refine ft_go mi_k117 4 37 [(7, .ref 112), (6, .ref 106), (0, .ref 0), (1, .int x1), (2, .int x2), (3, .int x3), (4, .int x4), (5, .int x5)] [.int (i 6784)] i a q r (by rfl) ?_ | refine ko_steps mi_in117 4 _ (37, [(7, .ref 112), (6, .ref 106), (0, .ref 0), (1, .int x1), (2, .int x2), (3, .int x3), (4, .int x4), (5, .int x5)], [.int (i 6784)], (0, 0), ks i a q r) (by rfl) ?_
          refine ft_if mi_k117 ((i 6784) == 0) 48 40 [(7, .ref 112), (6, .ref 106), (0, .ref 0), (1, .int x1), (2, .int x2), (3, .int x3), (4, .int x4), (5, .int x5)] [] (by rfl) (fun c => ?_) (fun c => ?_)
          ·
            have c188 : (i 6784).toInt = (0 : Int32).toInt := kd_eq c; clear c
            first | refine ft_go mi_k117 1 50 [(7, .ref 112), (6, .ref 106), (0, .ref 0), (1, .int x1), (2, .int x2), (3, .int x3), (4, .int x4), (5, .int x5)] [.int (-11)] i a q r (by rfl) ?_ | refine ko_steps mi_in117 1 _ (50, [(7, .ref 112), (6, .ref 106), (0, .ref 0), (1, .int x1), (2, .int x2), (3, .int x3), (4, .int x4), (5, .int x5)], [.int (-11)], (0, 0), ks i a q r) (by rfl) ?_
            exact ft_ret mi_k117 (by rfl) (hP (-11) _ _ _ _ hG trivial)
          ·
            have c189 : (i 6784).toInt ≠ (0 : Int32).toInt := kd_eqF c; clear c
            have fi_7168 : ((0 : Int) ≤ (i 7168).toInt) ∧ ((i 7168).toInt ≤ 2) := hG.I.1 7168
            first | refine ft_go mi_k117 2 45 [(7, .ref 112), (6, .ref 106), (0, .ref 0), (1, .int x1), (2, .int x2), (3, .int x3), (4, .int x4), (5, .int x5)] [.int (i 7168)] i a q r (by rfl) ?_ | refine ko_steps mi_in117 2 _ (45, [(7, .ref 112), (6, .ref 106), (0, .ref 0), (1, .int x1), (2, .int x2), (3, .int x3), (4, .int x4), (5, .int x5)], [.int (i 7168)], (0, 0), ks i a q r) (by rfl) ?_
            refine ft_if mi_k117 ((i 7168) != 0) 51 48 [(7, .ref 112), (6, .ref 106), (0, .ref 0), (1, .int x1), (2, .int x2), (3, .int x3), (4, .int x4), (5, .int x5)] [] (by rfl) (fun c => ?_) (fun c => ?_)
            ·
              have c190 : (i 7168).toInt ≠ (0 : Int32).toInt := kd_ne c; clear c
              first | refine ft_go mi_k117 3 57 [(7, .ref 112), (6, .ref 106), (0, .ref 0), (1, .int x1), (2, .int x2), (3, .int x3), (4, .int x4), (5, .int x5)] [.int 2, .int (i 6784)] i a q r (by rfl) ?_ | refine ko_steps mi_in117 3 _ (57, [(7, .ref 112), (6, .ref 106), (0, .ref 0), (1, .int x1), (2, .int x2), (3, .int x3), (4, .int x4), (5, .int x5)], [.int 2, .int (i 6784)], (0, 0), ks i a q r) (by rfl) ?_
              refine ft_if mi_k117 ((i 6784) != 2) 82 60 [(7, .ref 112), (6, .ref 106), (0, .ref 0), (1, .int x1), (2, .int x2), (3, .int x3), (4, .int x4), (5, .int x5)] [] (by rfl) (fun c => ?_) (fun c => ?_)
              ·
                have c191 : (i 6784).toInt ≠ (2 : Int32).toInt := kd_ne c; clear c
                first | refine ft_go mi_k117 1 84 [(7, .ref 112), (6, .ref 106), (0, .ref 0), (1, .int x1), (2, .int x2), (3, .int x3), (4, .int x4), (5, .int x5)] [.int (-12)] i a q r (by rfl) ?_ | refine ko_steps mi_in117 1 _ (84, [(7, .ref 112), (6, .ref 106), (0, .ref 0), (1, .int x1), (2, .int x2), (3, .int x3), (4, .int x4), (5, .int x5)], [.int (-12)], (0, 0), ks i a q r) (by rfl) ?_
                exact ft_ret mi_k117 (by rfl) (hP (-12) _ _ _ _ hG trivial)
              ·
                have c192 : (i 6784).toInt = (2 : Int32).toInt := kd_neF c; clear c
                first | refine ft_go mi_k117 3 66 [(7, .ref 112), (6, .ref 106), (0, .ref 0), (1, .int x1), (2, .int x2), (3, .int x3), (4, .int x4), (5, .int x5)] [.int 2, .int (i 7168)] i a q r (by rfl) ?_ | refine ko_steps mi_in117 3 _ (66, [(7, .ref 112), (6, .ref 106), (0, .ref 0), (1, .int x1), (2, .int x2), (3, .int x3), (4, .int x4), (5, .int x5)], [.int 2, .int (i 7168)], (0, 0), ks i a q r) (by rfl) ?_
                refine ft_if mi_k117 ((i 7168) != 2) 82 69 [(7, .ref 112), (6, .ref 106), (0, .ref 0), (1, .int x1), (2, .int x2), (3, .int x3), (4, .int x4), (5, .int x5)] [] (by rfl) (fun c => ?_) (fun c => ?_)
                ·
                  have c193 : (i 7168).toInt ≠ (2 : Int32).toInt := kd_ne c; clear c
                  first | refine ft_go mi_k117 1 84 [(7, .ref 112), (6, .ref 106), (0, .ref 0), (1, .int x1), (2, .int x2), (3, .int x3), (4, .int x4), (5, .int x5)] [.int (-12)] i a q r (by rfl) ?_ | refine ko_steps mi_in117 1 _ (84, [(7, .ref 112), (6, .ref 106), (0, .ref 0), (1, .int x1), (2, .int x2), (3, .int x3), (4, .int x4), (5, .int x5)], [.int (-12)], (0, 0), ks i a q r) (by rfl) ?_
                  exact ft_ret mi_k117 (by rfl) (hP (-12) _ _ _ _ hG trivial)
                ·
                  have c194 : (i 7168).toInt = (2 : Int32).toInt := kd_neF c; clear c
                  have fi_6786 : ((0 : Int) ≤ (i 6786).toInt) ∧ ((i 6786).toInt ≤ 4) := hG.I.1 6786
                  have fi_7170 : ((0 : Int) ≤ (i 7170).toInt) ∧ ((i 7170).toInt ≤ 4) := hG.I.1 7170
                  first | refine ft_go mi_k117 4 79 [(7, .ref 112), (6, .ref 106), (0, .ref 0), (1, .int x1), (2, .int x2), (3, .int x3), (4, .int x4), (5, .int x5)] [.int (i 7170), .int (i 6786)] i a q r (by rfl) ?_ | refine ko_steps mi_in117 4 _ (79, [(7, .ref 112), (6, .ref 106), (0, .ref 0), (1, .int x1), (2, .int x2), (3, .int x3), (4, .int x4), (5, .int x5)], [.int (i 7170), .int (i 6786)], (0, 0), ks i a q r) (by rfl) ?_
                  refine ft_if mi_k117 ((i 6786) == (i 7170)) 85 82 [(7, .ref 112), (6, .ref 106), (0, .ref 0), (1, .int x1), (2, .int x2), (3, .int x3), (4, .int x4), (5, .int x5)] [] (by rfl) (fun c => ?_) (fun c => ?_)
                  ·
                    have c195 : (i 6786).toInt = (i 7170).toInt := kd_eq c; clear c
                    first | refine ft_go mi_k117 3 90 [(7, .ref 112), (6, .ref 106), (0, .ref 0), (1, .int x1), (2, .int x2), (3, .int x3), (4, .int x4), (5, .int x5)] [.int x5, .int x2, .ref 106] i a q r (by rfl) ?_ | refine ko_steps mi_in117 3 _ (90, [(7, .ref 112), (6, .ref 106), (0, .ref 0), (1, .int x1), (2, .int x2), (3, .int x3), (4, .int x4), (5, .int x5)], [.int x5, .int x2, .ref 106], (0, 0), ks i a q r) (by rfl) ?_
                    refine ko_callPI mi_k117.1 (pc := 90) (ls := [(7, .ref 112), (6, .ref 106), (0, .ref 0), (1, .int x1), (2, .int x2), (3, .int x3), (4, .int x4), (5, .int x5)]) (st := [.int x5, .int x2, .ref 106]) (h := ks i a q r) (i := (.invokevirtual 324, 3, 37, 0, 9, 0, 316)) (mi_k117.2 _ _ (by rfl)) (ft_invS mi_pq37 (by rfl)) (cy := mi_c37) mi_pq37 rfl (kc37_106 hG.I hG.R x2 x5) (by decide) ?_
                    intro vg196 hg196
                    rcases hg196 with ⟨eg196, hg196⟩ | ⟨eg196, hg196⟩
                    ·
                      subst eg196
                      have fi_6787 : ((0 : Int) ≤ (i 6787).toInt) ∧ ((i 6787).toInt ≤ 60) := hG.I.1 6787
                      have z197 : ((0 : Int) ≤ x5.toInt) ∧ (x5.toInt ≤ (i 6787).toInt) ∧ ((0 : Int) ≤ x2.toInt) ∧ ((x2.toInt + x5.toInt) ≤ (i 6787).toInt) := hg196
                      first | refine ft_go mi_k117 4 102 [(7, .ref 112), (6, .ref 106), (0, .ref 0), (1, .int x1), (2, .int x2), (3, .int x3), (4, .int x4), (5, .int x5)] [.int x5, .int x4, .ref 112] i a q r (by rfl) ?_ | refine ko_steps mi_in117 4 _ (102, [(7, .ref 112), (6, .ref 106), (0, .ref 0), (1, .int x1), (2, .int x2), (3, .int x3), (4, .int x4), (5, .int x5)], [.int x5, .int x4, .ref 112], (0, 0), ks i a q r) (by rfl) ?_
                      refine ko_callPI mi_k117.1 (pc := 102) (ls := [(7, .ref 112), (6, .ref 106), (0, .ref 0), (1, .int x1), (2, .int x2), (3, .int x3), (4, .int x4), (5, .int x5)]) (st := [.int x5, .int x4, .ref 112]) (h := ks i a q r) (i := (.invokevirtual 324, 3, 37, 0, 9, 0, 316)) (mi_k117.2 _ _ (by rfl)) (ft_invS mi_pq37 (by rfl)) (cy := mi_c37) mi_pq37 rfl (kc37_112 hG.I hG.R x4 x5) (by decide) ?_
                      intro vg198 hg198
                      rcases hg198 with ⟨eg198, hg198⟩ | ⟨eg198, hg198⟩
                      ·
                        subst eg198
                        have fi_7171 : ((0 : Int) ≤ (i 7171).toInt) ∧ ((i 7171).toInt ≤ 60) := hG.I.1 7171
                        have z199 : ((0 : Int) ≤ x5.toInt) ∧ (x5.toInt ≤ (i 7171).toInt) ∧ ((0 : Int) ≤ x4.toInt) ∧ ((x4.toInt + x5.toInt) ≤ (i 7171).toInt) := hg198
                        first | refine ft_go mi_k117 8 126 [(7, .ref 112), (6, .ref 106), (0, .ref 0), (1, .int x1), (2, .int x2), (3, .int x3), (4, .int x4), (5, .int x5)] [.int x5, .int x4, .ref 113, .int x2, .ref 107] i a q r (by rfl) ?_ | refine ko_steps mi_in117 8 _ (126, [(7, .ref 112), (6, .ref 106), (0, .ref 0), (1, .int x1), (2, .int x2), (3, .int x3), (4, .int x4), (5, .int x5)], [.int x5, .int x4, .ref 113, .int x2, .ref 107], (0, 0), ks i a q r) (by rfl) ?_
                        have hJ200 := kG_q hG 113 rfl (z := mi_cpy (q 107) (q 113) x2.toNatClampNeg x4.toNatClampNeg x5.toNatClampNeg) (kcpy_len2 (n := 60) (c := 60) (m := 60) (b := 60) (sp := x2) (dp := x4) (n1 := x5) (hG.I.2.2.2 107) rfl (hG.I.2.2.2 113) rfl (oz3 z197.1) (oz3 z197.2.2.1) (oz3 z199.2.2.1) (oz1278 fi_6787.2 z197.2.2.2) (oz1278 fi_7171.2 z199.2.2.2))
                        refine ko_copyL2 mi_k117.1 (l := q 107) (g := q 113) (n := 60) (c := 60) (m := 60) (b := 60) (mi_k117.2 _ _ (by rfl)) (by rfl) (by rfl) (by rfl) (by rfl) (by rfl) (hG.I.2.2.2 107) rfl (hG.I.2.2.2 113) rfl (oz3 z197.1) (oz3 z197.2.2.1) (oz3 z199.2.2.1) (oz1278 fi_6787.2 z197.2.2.2) (oz1278 fi_7171.2 z199.2.2.2) (h5 := ks i a (ku q 113 (mi_cpy (q 107) (q 113) x2.toNatClampNeg x4.toNatClampNeg x5.toNatClampNeg)) r) (by rfl) ?_
                        first | refine ft_go mi_k117 1 131 [(7, .ref 112), (6, .ref 106), (0, .ref 0), (1, .int x1), (2, .int x2), (3, .int x3), (4, .int x4), (5, .int x5)] [.int x5] i a (ku q 113 (mi_cpy (q 107) (q 113) x2.toNatClampNeg x4.toNatClampNeg x5.toNatClampNeg)) r (by rfl) ?_ | refine ko_steps mi_in117 1 _ (131, [(7, .ref 112), (6, .ref 106), (0, .ref 0), (1, .int x1), (2, .int x2), (3, .int x3), (4, .int x4), (5, .int x5)], [.int x5], (0, 0), ks i a (ku q 113 (mi_cpy (q 107) (q 113) x2.toNatClampNeg x4.toNatClampNeg x5.toNatClampNeg)) r) (by rfl) ?_
                        exact ft_ret mi_k117 (by rfl) (hP x5 _ _ _ _ hJ200 trivial)
                      ·
                        subst eg198
                        have fi_7171 : ((0 : Int) ≤ (i 7171).toInt) ∧ ((i 7171).toInt ≤ 60) := hG.I.1 7171
                        have z201 : ¬ (((0 : Int) ≤ x5.toInt) ∧ (x5.toInt ≤ (i 7171).toInt) ∧ ((0 : Int) ≤ x4.toInt) ∧ ((x4.toInt + x5.toInt) ≤ (i 7171).toInt)) := hg198
                        first | refine ft_go mi_k117 2 110 [(7, .ref 112), (6, .ref 106), (0, .ref 0), (1, .int x1), (2, .int x2), (3, .int x3), (4, .int x4), (5, .int x5)] [.int (-13)] i a q r (by rfl) ?_ | refine ko_steps mi_in117 2 _ (110, [(7, .ref 112), (6, .ref 106), (0, .ref 0), (1, .int x1), (2, .int x2), (3, .int x3), (4, .int x4), (5, .int x5)], [.int (-13)], (0, 0), ks i a q r) (by rfl) ?_
                        exact ft_ret mi_k117 (by rfl) (hP (-13) _ _ _ _ hG trivial)
                    ·
                      subst eg196
                      have fi_6787 : ((0 : Int) ≤ (i 6787).toInt) ∧ ((i 6787).toInt ≤ 60) := hG.I.1 6787
                      have z202 : ¬ (((0 : Int) ≤ x5.toInt) ∧ (x5.toInt ≤ (i 6787).toInt) ∧ ((0 : Int) ≤ x2.toInt) ∧ ((x2.toInt + x5.toInt) ≤ (i 6787).toInt)) := hg196
                      first | refine ft_go mi_k117 2 110 [(7, .ref 112), (6, .ref 106), (0, .ref 0), (1, .int x1), (2, .int x2), (3, .int x3), (4, .int x4), (5, .int x5)] [.int (-13)] i a q r (by rfl) ?_ | refine ko_steps mi_in117 2 _ (110, [(7, .ref 112), (6, .ref 106), (0, .ref 0), (1, .int x1), (2, .int x2), (3, .int x3), (4, .int x4), (5, .int x5)], [.int (-13)], (0, 0), ks i a q r) (by rfl) ?_
                      exact ft_ret mi_k117 (by rfl) (hP (-13) _ _ _ _ hG trivial)
                  ·
                    have c203 : (i 6786).toInt ≠ (i 7170).toInt := kd_eqF c; clear c
                    first | refine ft_go mi_k117 1 84 [(7, .ref 112), (6, .ref 106), (0, .ref 0), (1, .int x1), (2, .int x2), (3, .int x3), (4, .int x4), (5, .int x5)] [.int (-12)] i a q r (by rfl) ?_ | refine ko_steps mi_in117 1 _ (84, [(7, .ref 112), (6, .ref 106), (0, .ref 0), (1, .int x1), (2, .int x2), (3, .int x3), (4, .int x4), (5, .int x5)], [.int (-12)], (0, 0), ks i a q r) (by rfl) ?_
                    exact ft_ret mi_k117 (by rfl) (hP (-12) _ _ _ _ hG trivial)
            ·
              have c204 : (i 7168).toInt = (0 : Int32).toInt := kd_neF c; clear c
              first | refine ft_go mi_k117 1 50 [(7, .ref 112), (6, .ref 106), (0, .ref 0), (1, .int x1), (2, .int x2), (3, .int x3), (4, .int x4), (5, .int x5)] [.int (-11)] i a q r (by rfl) ?_ | refine ko_steps mi_in117 1 _ (50, [(7, .ref 112), (6, .ref 106), (0, .ref 0), (1, .int x1), (2, .int x2), (3, .int x3), (4, .int x4), (5, .int x5)], [.int (-11)], (0, 0), ks i a q r) (by rfl) ?_
              exact ft_ret mi_k117 (by rfl) (hP (-11) _ _ _ _ hG trivial)
        by_cases w205 : x3.toInt = 5
        ·
          refine ko_eq (x1 := (29, [(6, .ref 106), (0, .ref 0), (1, .int x1), (2, .int x2), (3, .int x3), (4, .int x4), (5, .int x5)], [.int 5, .ref 97], (0, 0), ks i a q r)) (by rw [(kj_eq w205 (by decide) : x3 = 5)]) ?_
          have fi_6784 : ((0 : Int) ≤ (i 6784).toInt) ∧ ((i 6784).toInt ≤ 2) := hG.I.1 6784
          first | refine ft_go mi_k117 4 37 [(7, .ref 114), (6, .ref 106), (0, .ref 0), (1, .int x1), (2, .int x2), (3, .int x3), (4, .int x4), (5, .int x5)] [.int (i 6784)] i a q r (by rfl) ?_ | refine ko_steps mi_in117 4 _ (37, [(7, .ref 114), (6, .ref 106), (0, .ref 0), (1, .int x1), (2, .int x2), (3, .int x3), (4, .int x4), (5, .int x5)], [.int (i 6784)], (0, 0), ks i a q r) (by rfl) ?_
          refine ft_if mi_k117 ((i 6784) == 0) 48 40 [(7, .ref 114), (6, .ref 106), (0, .ref 0), (1, .int x1), (2, .int x2), (3, .int x3), (4, .int x4), (5, .int x5)] [] (by rfl) (fun c => ?_) (fun c => ?_)
          ·
            have c206 : (i 6784).toInt = (0 : Int32).toInt := kd_eq c; clear c
            first | refine ft_go mi_k117 1 50 [(7, .ref 114), (6, .ref 106), (0, .ref 0), (1, .int x1), (2, .int x2), (3, .int x3), (4, .int x4), (5, .int x5)] [.int (-11)] i a q r (by rfl) ?_ | refine ko_steps mi_in117 1 _ (50, [(7, .ref 114), (6, .ref 106), (0, .ref 0), (1, .int x1), (2, .int x2), (3, .int x3), (4, .int x4), (5, .int x5)], [.int (-11)], (0, 0), ks i a q r) (by rfl) ?_
            exact ft_ret mi_k117 (by rfl) (hP (-11) _ _ _ _ hG trivial)
          ·
            have c207 : (i 6784).toInt ≠ (0 : Int32).toInt := kd_eqF c; clear c
            have fi_7296 : ((0 : Int) ≤ (i 7296).toInt) ∧ ((i 7296).toInt ≤ 2) := hG.I.1 7296
            first | refine ft_go mi_k117 2 45 [(7, .ref 114), (6, .ref 106), (0, .ref 0), (1, .int x1), (2, .int x2), (3, .int x3), (4, .int x4), (5, .int x5)] [.int (i 7296)] i a q r (by rfl) ?_ | refine ko_steps mi_in117 2 _ (45, [(7, .ref 114), (6, .ref 106), (0, .ref 0), (1, .int x1), (2, .int x2), (3, .int x3), (4, .int x4), (5, .int x5)], [.int (i 7296)], (0, 0), ks i a q r) (by rfl) ?_
            refine ft_if mi_k117 ((i 7296) != 0) 51 48 [(7, .ref 114), (6, .ref 106), (0, .ref 0), (1, .int x1), (2, .int x2), (3, .int x3), (4, .int x4), (5, .int x5)] [] (by rfl) (fun c => ?_) (fun c => ?_)
            ·
              have c208 : (i 7296).toInt ≠ (0 : Int32).toInt := kd_ne c; clear c
              first | refine ft_go mi_k117 3 57 [(7, .ref 114), (6, .ref 106), (0, .ref 0), (1, .int x1), (2, .int x2), (3, .int x3), (4, .int x4), (5, .int x5)] [.int 2, .int (i 6784)] i a q r (by rfl) ?_ | refine ko_steps mi_in117 3 _ (57, [(7, .ref 114), (6, .ref 106), (0, .ref 0), (1, .int x1), (2, .int x2), (3, .int x3), (4, .int x4), (5, .int x5)], [.int 2, .int (i 6784)], (0, 0), ks i a q r) (by rfl) ?_
              refine ft_if mi_k117 ((i 6784) != 2) 82 60 [(7, .ref 114), (6, .ref 106), (0, .ref 0), (1, .int x1), (2, .int x2), (3, .int x3), (4, .int x4), (5, .int x5)] [] (by rfl) (fun c => ?_) (fun c => ?_)
              ·
                have c209 : (i 6784).toInt ≠ (2 : Int32).toInt := kd_ne c; clear c
                first | refine ft_go mi_k117 1 84 [(7, .ref 114), (6, .ref 106), (0, .ref 0), (1, .int x1), (2, .int x2), (3, .int x3), (4, .int x4), (5, .int x5)] [.int (-12)] i a q r (by rfl) ?_ | refine ko_steps mi_in117 1 _ (84, [(7, .ref 114), (6, .ref 106), (0, .ref 0), (1, .int x1), (2, .int x2), (3, .int x3), (4, .int x4), (5, .int x5)], [.int (-12)], (0, 0), ks i a q r) (by rfl) ?_
                exact ft_ret mi_k117 (by rfl) (hP (-12) _ _ _ _ hG trivial)
              ·
                have c210 : (i 6784).toInt = (2 : Int32).toInt := kd_neF c; clear c
                first | refine ft_go mi_k117 3 66 [(7, .ref 114), (6, .ref 106), (0, .ref 0), (1, .int x1), (2, .int x2), (3, .int x3), (4, .int x4), (5, .int x5)] [.int 2, .int (i 7296)] i a q r (by rfl) ?_ | refine ko_steps mi_in117 3 _ (66, [(7, .ref 114), (6, .ref 106), (0, .ref 0), (1, .int x1), (2, .int x2), (3, .int x3), (4, .int x4), (5, .int x5)], [.int 2, .int (i 7296)], (0, 0), ks i a q r) (by rfl) ?_
                refine ft_if mi_k117 ((i 7296) != 2) 82 69 [(7, .ref 114), (6, .ref 106), (0, .ref 0), (1, .int x1), (2, .int x2), (3, .int x3), (4, .int x4), (5, .int x5)] [] (by rfl) (fun c => ?_) (fun c => ?_)
                ·
                  have c211 : (i 7296).toInt ≠ (2 : Int32).toInt := kd_ne c; clear c
                  first | refine ft_go mi_k117 1 84 [(7, .ref 114), (6, .ref 106), (0, .ref 0), (1, .int x1), (2, .int x2), (3, .int x3), (4, .int x4), (5, .int x5)] [.int (-12)] i a q r (by rfl) ?_ | refine ko_steps mi_in117 1 _ (84, [(7, .ref 114), (6, .ref 106), (0, .ref 0), (1, .int x1), (2, .int x2), (3, .int x3), (4, .int x4), (5, .int x5)], [.int (-12)], (0, 0), ks i a q r) (by rfl) ?_
                  exact ft_ret mi_k117 (by rfl) (hP (-12) _ _ _ _ hG trivial)
                ·
                  have c212 : (i 7296).toInt = (2 : Int32).toInt := kd_neF c; clear c
                  have fi_6786 : ((0 : Int) ≤ (i 6786).toInt) ∧ ((i 6786).toInt ≤ 4) := hG.I.1 6786
                  have fi_7298 : ((0 : Int) ≤ (i 7298).toInt) ∧ ((i 7298).toInt ≤ 4) := hG.I.1 7298
                  first | refine ft_go mi_k117 4 79 [(7, .ref 114), (6, .ref 106), (0, .ref 0), (1, .int x1), (2, .int x2), (3, .int x3), (4, .int x4), (5, .int x5)] [.int (i 7298), .int (i 6786)] i a q r (by rfl) ?_ | refine ko_steps mi_in117 4 _ (79, [(7, .ref 114), (6, .ref 106), (0, .ref 0), (1, .int x1), (2, .int x2), (3, .int x3), (4, .int x4), (5, .int x5)], [.int (i 7298), .int (i 6786)], (0, 0), ks i a q r) (by rfl) ?_
                  refine ft_if mi_k117 ((i 6786) == (i 7298)) 85 82 [(7, .ref 114), (6, .ref 106), (0, .ref 0), (1, .int x1), (2, .int x2), (3, .int x3), (4, .int x4), (5, .int x5)] [] (by rfl) (fun c => ?_) (fun c => ?_)
                  ·
                    have c213 : (i 6786).toInt = (i 7298).toInt := kd_eq c; clear c
                    first | refine ft_go mi_k117 3 90 [(7, .ref 114), (6, .ref 106), (0, .ref 0), (1, .int x1), (2, .int x2), (3, .int x3), (4, .int x4), (5, .int x5)] [.int x5, .int x2, .ref 106] i a q r (by rfl) ?_ | refine ko_steps mi_in117 3 _ (90, [(7, .ref 114), (6, .ref 106), (0, .ref 0), (1, .int x1), (2, .int x2), (3, .int x3), (4, .int x4), (5, .int x5)], [.int x5, .int x2, .ref 106], (0, 0), ks i a q r) (by rfl) ?_
                    refine ko_callPI mi_k117.1 (pc := 90) (ls := [(7, .ref 114), (6, .ref 106), (0, .ref 0), (1, .int x1), (2, .int x2), (3, .int x3), (4, .int x4), (5, .int x5)]) (st := [.int x5, .int x2, .ref 106]) (h := ks i a q r) (i := (.invokevirtual 324, 3, 37, 0, 9, 0, 316)) (mi_k117.2 _ _ (by rfl)) (ft_invS mi_pq37 (by rfl)) (cy := mi_c37) mi_pq37 rfl (kc37_106 hG.I hG.R x2 x5) (by decide) ?_
                    intro vg214 hg214
                    rcases hg214 with ⟨eg214, hg214⟩ | ⟨eg214, hg214⟩
                    ·
                      subst eg214
                      have fi_6787 : ((0 : Int) ≤ (i 6787).toInt) ∧ ((i 6787).toInt ≤ 60) := hG.I.1 6787
                      have z215 : ((0 : Int) ≤ x5.toInt) ∧ (x5.toInt ≤ (i 6787).toInt) ∧ ((0 : Int) ≤ x2.toInt) ∧ ((x2.toInt + x5.toInt) ≤ (i 6787).toInt) := hg214
                      first | refine ft_go mi_k117 4 102 [(7, .ref 114), (6, .ref 106), (0, .ref 0), (1, .int x1), (2, .int x2), (3, .int x3), (4, .int x4), (5, .int x5)] [.int x5, .int x4, .ref 114] i a q r (by rfl) ?_ | refine ko_steps mi_in117 4 _ (102, [(7, .ref 114), (6, .ref 106), (0, .ref 0), (1, .int x1), (2, .int x2), (3, .int x3), (4, .int x4), (5, .int x5)], [.int x5, .int x4, .ref 114], (0, 0), ks i a q r) (by rfl) ?_
                      refine ko_callPI mi_k117.1 (pc := 102) (ls := [(7, .ref 114), (6, .ref 106), (0, .ref 0), (1, .int x1), (2, .int x2), (3, .int x3), (4, .int x4), (5, .int x5)]) (st := [.int x5, .int x4, .ref 114]) (h := ks i a q r) (i := (.invokevirtual 324, 3, 37, 0, 9, 0, 316)) (mi_k117.2 _ _ (by rfl)) (ft_invS mi_pq37 (by rfl)) (cy := mi_c37) mi_pq37 rfl (kc37_114 hG.I hG.R x4 x5) (by decide) ?_
                      intro vg216 hg216
                      rcases hg216 with ⟨eg216, hg216⟩ | ⟨eg216, hg216⟩
                      ·
                        subst eg216
                        have fi_7299 : ((0 : Int) ≤ (i 7299).toInt) ∧ ((i 7299).toInt ≤ 60) := hG.I.1 7299
                        have z217 : ((0 : Int) ≤ x5.toInt) ∧ (x5.toInt ≤ (i 7299).toInt) ∧ ((0 : Int) ≤ x4.toInt) ∧ ((x4.toInt + x5.toInt) ≤ (i 7299).toInt) := hg216
                        first | refine ft_go mi_k117 8 126 [(7, .ref 114), (6, .ref 106), (0, .ref 0), (1, .int x1), (2, .int x2), (3, .int x3), (4, .int x4), (5, .int x5)] [.int x5, .int x4, .ref 115, .int x2, .ref 107] i a q r (by rfl) ?_ | refine ko_steps mi_in117 8 _ (126, [(7, .ref 114), (6, .ref 106), (0, .ref 0), (1, .int x1), (2, .int x2), (3, .int x3), (4, .int x4), (5, .int x5)], [.int x5, .int x4, .ref 115, .int x2, .ref 107], (0, 0), ks i a q r) (by rfl) ?_
                        have hJ218 := kG_q hG 115 rfl (z := mi_cpy (q 107) (q 115) x2.toNatClampNeg x4.toNatClampNeg x5.toNatClampNeg) (kcpy_len2 (n := 60) (c := 60) (m := 60) (b := 60) (sp := x2) (dp := x4) (n1 := x5) (hG.I.2.2.2 107) rfl (hG.I.2.2.2 115) rfl (oz3 z215.1) (oz3 z215.2.2.1) (oz3 z217.2.2.1) (oz1278 fi_6787.2 z215.2.2.2) (oz1278 fi_7299.2 z217.2.2.2))
                        refine ko_copyL2 mi_k117.1 (l := q 107) (g := q 115) (n := 60) (c := 60) (m := 60) (b := 60) (mi_k117.2 _ _ (by rfl)) (by rfl) (by rfl) (by rfl) (by rfl) (by rfl) (hG.I.2.2.2 107) rfl (hG.I.2.2.2 115) rfl (oz3 z215.1) (oz3 z215.2.2.1) (oz3 z217.2.2.1) (oz1278 fi_6787.2 z215.2.2.2) (oz1278 fi_7299.2 z217.2.2.2) (h5 := ks i a (ku q 115 (mi_cpy (q 107) (q 115) x2.toNatClampNeg x4.toNatClampNeg x5.toNatClampNeg)) r) (by rfl) ?_
                        first | refine ft_go mi_k117 1 131 [(7, .ref 114), (6, .ref 106), (0, .ref 0), (1, .int x1), (2, .int x2), (3, .int x3), (4, .int x4), (5, .int x5)] [.int x5] i a (ku q 115 (mi_cpy (q 107) (q 115) x2.toNatClampNeg x4.toNatClampNeg x5.toNatClampNeg)) r (by rfl) ?_ | refine ko_steps mi_in117 1 _ (131, [(7, .ref 114), (6, .ref 106), (0, .ref 0), (1, .int x1), (2, .int x2), (3, .int x3), (4, .int x4), (5, .int x5)], [.int x5], (0, 0), ks i a (ku q 115 (mi_cpy (q 107) (q 115) x2.toNatClampNeg x4.toNatClampNeg x5.toNatClampNeg)) r) (by rfl) ?_
                        exact ft_ret mi_k117 (by rfl) (hP x5 _ _ _ _ hJ218 trivial)
                      ·
                        subst eg216
                        have fi_7299 : ((0 : Int) ≤ (i 7299).toInt) ∧ ((i 7299).toInt ≤ 60) := hG.I.1 7299
                        have z219 : ¬ (((0 : Int) ≤ x5.toInt) ∧ (x5.toInt ≤ (i 7299).toInt) ∧ ((0 : Int) ≤ x4.toInt) ∧ ((x4.toInt + x5.toInt) ≤ (i 7299).toInt)) := hg216
                        first | refine ft_go mi_k117 2 110 [(7, .ref 114), (6, .ref 106), (0, .ref 0), (1, .int x1), (2, .int x2), (3, .int x3), (4, .int x4), (5, .int x5)] [.int (-13)] i a q r (by rfl) ?_ | refine ko_steps mi_in117 2 _ (110, [(7, .ref 114), (6, .ref 106), (0, .ref 0), (1, .int x1), (2, .int x2), (3, .int x3), (4, .int x4), (5, .int x5)], [.int (-13)], (0, 0), ks i a q r) (by rfl) ?_
                        exact ft_ret mi_k117 (by rfl) (hP (-13) _ _ _ _ hG trivial)
                    ·
                      subst eg214
                      have fi_6787 : ((0 : Int) ≤ (i 6787).toInt) ∧ ((i 6787).toInt ≤ 60) := hG.I.1 6787
                      have z220 : ¬ (((0 : Int) ≤ x5.toInt) ∧ (x5.toInt ≤ (i 6787).toInt) ∧ ((0 : Int) ≤ x2.toInt) ∧ ((x2.toInt + x5.toInt) ≤ (i 6787).toInt)) := hg214
                      first | refine ft_go mi_k117 2 110 [(7, .ref 114), (6, .ref 106), (0, .ref 0), (1, .int x1), (2, .int x2), (3, .int x3), (4, .int x4), (5, .int x5)] [.int (-13)] i a q r (by rfl) ?_ | refine ko_steps mi_in117 2 _ (110, [(7, .ref 114), (6, .ref 106), (0, .ref 0), (1, .int x1), (2, .int x2), (3, .int x3), (4, .int x4), (5, .int x5)], [.int (-13)], (0, 0), ks i a q r) (by rfl) ?_
                      exact ft_ret mi_k117 (by rfl) (hP (-13) _ _ _ _ hG trivial)
                  ·
                    have c221 : (i 6786).toInt ≠ (i 7298).toInt := kd_eqF c; clear c
                    first | refine ft_go mi_k117 1 84 [(7, .ref 114), (6, .ref 106), (0, .ref 0), (1, .int x1), (2, .int x2), (3, .int x3), (4, .int x4), (5, .int x5)] [.int (-12)] i a q r (by rfl) ?_ | refine ko_steps mi_in117 1 _ (84, [(7, .ref 114), (6, .ref 106), (0, .ref 0), (1, .int x1), (2, .int x2), (3, .int x3), (4, .int x4), (5, .int x5)], [.int (-12)], (0, 0), ks i a q r) (by rfl) ?_
                    exact ft_ret mi_k117 (by rfl) (hP (-12) _ _ _ _ hG trivial)
            ·
              have c222 : (i 7296).toInt = (0 : Int32).toInt := kd_neF c; clear c
              first | refine ft_go mi_k117 1 50 [(7, .ref 114), (6, .ref 106), (0, .ref 0), (1, .int x1), (2, .int x2), (3, .int x3), (4, .int x4), (5, .int x5)] [.int (-11)] i a q r (by rfl) ?_ | refine ko_steps mi_in117 1 _ (50, [(7, .ref 114), (6, .ref 106), (0, .ref 0), (1, .int x1), (2, .int x2), (3, .int x3), (4, .int x4), (5, .int x5)], [.int (-11)], (0, 0), ks i a q r) (by rfl) ?_
              exact ft_ret mi_k117 (by rfl) (hP (-11) _ _ _ _ hG trivial)
        exact (oz1245 w115 w133 w151 w169 w187 w205 z4.1 z4.2).elim
      by_cases w223 : x1.toInt = 2
      ·
        refine ko_eq (x1 := (21, [(0, .ref 0), (1, .int x1), (2, .int x2), (3, .int x3), (4, .int x4), (5, .int x5)], [.int 2, .ref 97], (0, 0), ks i a q r)) (by rw [(kj_eq w223 (by decide) : x1 = 2)]) ?_
        first | refine ft_go mi_k117 5 29 [(6, .ref 108), (0, .ref 0), (1, .int x1), (2, .int x2), (3, .int x3), (4, .int x4), (5, .int x5)] [.int x3, .ref 97] i a q r (by rfl) ?_ | refine ko_steps mi_in117 5 _ (29, [(6, .ref 108), (0, .ref 0), (1, .int x1), (2, .int x2), (3, .int x3), (4, .int x4), (5, .int x5)], [.int x3, .ref 97], (0, 0), ks i a q r) (by rfl) ?_
        by_cases w224 : x3.toInt = 0
        ·
          refine ko_eq (x1 := (29, [(6, .ref 108), (0, .ref 0), (1, .int x1), (2, .int x2), (3, .int x3), (4, .int x4), (5, .int x5)], [.int 0, .ref 97], (0, 0), ks i a q r)) (by rw [(kj_eq w224 (by decide) : x3 = 0)]) ?_
          have fi_6912 : ((0 : Int) ≤ (i 6912).toInt) ∧ ((i 6912).toInt ≤ 2) := hG.I.1 6912
          first | refine ft_go mi_k117 4 37 [(7, .ref 104), (6, .ref 108), (0, .ref 0), (1, .int x1), (2, .int x2), (3, .int x3), (4, .int x4), (5, .int x5)] [.int (i 6912)] i a q r (by rfl) ?_ | refine ko_steps mi_in117 4 _ (37, [(7, .ref 104), (6, .ref 108), (0, .ref 0), (1, .int x1), (2, .int x2), (3, .int x3), (4, .int x4), (5, .int x5)], [.int (i 6912)], (0, 0), ks i a q r) (by rfl) ?_
          refine ft_if mi_k117 ((i 6912) == 0) 48 40 [(7, .ref 104), (6, .ref 108), (0, .ref 0), (1, .int x1), (2, .int x2), (3, .int x3), (4, .int x4), (5, .int x5)] [] (by rfl) (fun c => ?_) (fun c => ?_)
          ·
            have c225 : (i 6912).toInt = (0 : Int32).toInt := kd_eq c; clear c
            first | refine ft_go mi_k117 1 50 [(7, .ref 104), (6, .ref 108), (0, .ref 0), (1, .int x1), (2, .int x2), (3, .int x3), (4, .int x4), (5, .int x5)] [.int (-11)] i a q r (by rfl) ?_ | refine ko_steps mi_in117 1 _ (50, [(7, .ref 104), (6, .ref 108), (0, .ref 0), (1, .int x1), (2, .int x2), (3, .int x3), (4, .int x4), (5, .int x5)], [.int (-11)], (0, 0), ks i a q r) (by rfl) ?_
            exact ft_ret mi_k117 (by rfl) (hP (-11) _ _ _ _ hG trivial)
          ·
            have c226 : (i 6912).toInt ≠ (0 : Int32).toInt := kd_eqF c; clear c
            have fi_6656 : ((0 : Int) ≤ (i 6656).toInt) ∧ ((i 6656).toInt ≤ 2) := hG.I.1 6656
            first | refine ft_go mi_k117 2 45 [(7, .ref 104), (6, .ref 108), (0, .ref 0), (1, .int x1), (2, .int x2), (3, .int x3), (4, .int x4), (5, .int x5)] [.int (i 6656)] i a q r (by rfl) ?_ | refine ko_steps mi_in117 2 _ (45, [(7, .ref 104), (6, .ref 108), (0, .ref 0), (1, .int x1), (2, .int x2), (3, .int x3), (4, .int x4), (5, .int x5)], [.int (i 6656)], (0, 0), ks i a q r) (by rfl) ?_
            refine ft_if mi_k117 ((i 6656) != 0) 51 48 [(7, .ref 104), (6, .ref 108), (0, .ref 0), (1, .int x1), (2, .int x2), (3, .int x3), (4, .int x4), (5, .int x5)] [] (by rfl) (fun c => ?_) (fun c => ?_)
            ·
              have c227 : (i 6656).toInt ≠ (0 : Int32).toInt := kd_ne c; clear c
              first | refine ft_go mi_k117 3 57 [(7, .ref 104), (6, .ref 108), (0, .ref 0), (1, .int x1), (2, .int x2), (3, .int x3), (4, .int x4), (5, .int x5)] [.int 2, .int (i 6912)] i a q r (by rfl) ?_ | refine ko_steps mi_in117 3 _ (57, [(7, .ref 104), (6, .ref 108), (0, .ref 0), (1, .int x1), (2, .int x2), (3, .int x3), (4, .int x4), (5, .int x5)], [.int 2, .int (i 6912)], (0, 0), ks i a q r) (by rfl) ?_
              refine ft_if mi_k117 ((i 6912) != 2) 82 60 [(7, .ref 104), (6, .ref 108), (0, .ref 0), (1, .int x1), (2, .int x2), (3, .int x3), (4, .int x4), (5, .int x5)] [] (by rfl) (fun c => ?_) (fun c => ?_)
              ·
                have c228 : (i 6912).toInt ≠ (2 : Int32).toInt := kd_ne c; clear c
                first | refine ft_go mi_k117 1 84 [(7, .ref 104), (6, .ref 108), (0, .ref 0), (1, .int x1), (2, .int x2), (3, .int x3), (4, .int x4), (5, .int x5)] [.int (-12)] i a q r (by rfl) ?_ | refine ko_steps mi_in117 1 _ (84, [(7, .ref 104), (6, .ref 108), (0, .ref 0), (1, .int x1), (2, .int x2), (3, .int x3), (4, .int x4), (5, .int x5)], [.int (-12)], (0, 0), ks i a q r) (by rfl) ?_
                exact ft_ret mi_k117 (by rfl) (hP (-12) _ _ _ _ hG trivial)
              ·
                have c229 : (i 6912).toInt = (2 : Int32).toInt := kd_neF c; clear c
                first | refine ft_go mi_k117 3 66 [(7, .ref 104), (6, .ref 108), (0, .ref 0), (1, .int x1), (2, .int x2), (3, .int x3), (4, .int x4), (5, .int x5)] [.int 2, .int (i 6656)] i a q r (by rfl) ?_ | refine ko_steps mi_in117 3 _ (66, [(7, .ref 104), (6, .ref 108), (0, .ref 0), (1, .int x1), (2, .int x2), (3, .int x3), (4, .int x4), (5, .int x5)], [.int 2, .int (i 6656)], (0, 0), ks i a q r) (by rfl) ?_
                refine ft_if mi_k117 ((i 6656) != 2) 82 69 [(7, .ref 104), (6, .ref 108), (0, .ref 0), (1, .int x1), (2, .int x2), (3, .int x3), (4, .int x4), (5, .int x5)] [] (by rfl) (fun c => ?_) (fun c => ?_)
                ·
                  have c230 : (i 6656).toInt ≠ (2 : Int32).toInt := kd_ne c; clear c
                  first | refine ft_go mi_k117 1 84 [(7, .ref 104), (6, .ref 108), (0, .ref 0), (1, .int x1), (2, .int x2), (3, .int x3), (4, .int x4), (5, .int x5)] [.int (-12)] i a q r (by rfl) ?_ | refine ko_steps mi_in117 1 _ (84, [(7, .ref 104), (6, .ref 108), (0, .ref 0), (1, .int x1), (2, .int x2), (3, .int x3), (4, .int x4), (5, .int x5)], [.int (-12)], (0, 0), ks i a q r) (by rfl) ?_
                  exact ft_ret mi_k117 (by rfl) (hP (-12) _ _ _ _ hG trivial)
                ·
                  have c231 : (i 6656).toInt = (2 : Int32).toInt := kd_neF c; clear c
                  have fi_6914 : ((0 : Int) ≤ (i 6914).toInt) ∧ ((i 6914).toInt ≤ 4) := hG.I.1 6914
                  have fi_6658 : ((0 : Int) ≤ (i 6658).toInt) ∧ ((i 6658).toInt ≤ 4) := hG.I.1 6658
                  first | refine ft_go mi_k117 4 79 [(7, .ref 104), (6, .ref 108), (0, .ref 0), (1, .int x1), (2, .int x2), (3, .int x3), (4, .int x4), (5, .int x5)] [.int (i 6658), .int (i 6914)] i a q r (by rfl) ?_ | refine ko_steps mi_in117 4 _ (79, [(7, .ref 104), (6, .ref 108), (0, .ref 0), (1, .int x1), (2, .int x2), (3, .int x3), (4, .int x4), (5, .int x5)], [.int (i 6658), .int (i 6914)], (0, 0), ks i a q r) (by rfl) ?_
                  refine ft_if mi_k117 ((i 6914) == (i 6658)) 85 82 [(7, .ref 104), (6, .ref 108), (0, .ref 0), (1, .int x1), (2, .int x2), (3, .int x3), (4, .int x4), (5, .int x5)] [] (by rfl) (fun c => ?_) (fun c => ?_)
                  ·
                    have c232 : (i 6914).toInt = (i 6658).toInt := kd_eq c; clear c
                    first | refine ft_go mi_k117 3 90 [(7, .ref 104), (6, .ref 108), (0, .ref 0), (1, .int x1), (2, .int x2), (3, .int x3), (4, .int x4), (5, .int x5)] [.int x5, .int x2, .ref 108] i a q r (by rfl) ?_ | refine ko_steps mi_in117 3 _ (90, [(7, .ref 104), (6, .ref 108), (0, .ref 0), (1, .int x1), (2, .int x2), (3, .int x3), (4, .int x4), (5, .int x5)], [.int x5, .int x2, .ref 108], (0, 0), ks i a q r) (by rfl) ?_
                    refine ko_callPI mi_k117.1 (pc := 90) (ls := [(7, .ref 104), (6, .ref 108), (0, .ref 0), (1, .int x1), (2, .int x2), (3, .int x3), (4, .int x4), (5, .int x5)]) (st := [.int x5, .int x2, .ref 108]) (h := ks i a q r) (i := (.invokevirtual 324, 3, 37, 0, 9, 0, 316)) (mi_k117.2 _ _ (by rfl)) (ft_invS mi_pq37 (by rfl)) (cy := mi_c37) mi_pq37 rfl (kc37_108 hG.I hG.R x2 x5) (by decide) ?_
                    intro vg233 hg233
                    rcases hg233 with ⟨eg233, hg233⟩ | ⟨eg233, hg233⟩
                    ·
                      subst eg233
                      have fi_6915 : ((0 : Int) ≤ (i 6915).toInt) ∧ ((i 6915).toInt ≤ 60) := hG.I.1 6915
                      have z234 : ((0 : Int) ≤ x5.toInt) ∧ (x5.toInt ≤ (i 6915).toInt) ∧ ((0 : Int) ≤ x2.toInt) ∧ ((x2.toInt + x5.toInt) ≤ (i 6915).toInt) := hg233
                      first | refine ft_go mi_k117 4 102 [(7, .ref 104), (6, .ref 108), (0, .ref 0), (1, .int x1), (2, .int x2), (3, .int x3), (4, .int x4), (5, .int x5)] [.int x5, .int x4, .ref 104] i a q r (by rfl) ?_ | refine ko_steps mi_in117 4 _ (102, [(7, .ref 104), (6, .ref 108), (0, .ref 0), (1, .int x1), (2, .int x2), (3, .int x3), (4, .int x4), (5, .int x5)], [.int x5, .int x4, .ref 104], (0, 0), ks i a q r) (by rfl) ?_
                      refine ko_callPI mi_k117.1 (pc := 102) (ls := [(7, .ref 104), (6, .ref 108), (0, .ref 0), (1, .int x1), (2, .int x2), (3, .int x3), (4, .int x4), (5, .int x5)]) (st := [.int x5, .int x4, .ref 104]) (h := ks i a q r) (i := (.invokevirtual 324, 3, 37, 0, 9, 0, 316)) (mi_k117.2 _ _ (by rfl)) (ft_invS mi_pq37 (by rfl)) (cy := mi_c37) mi_pq37 rfl (kc37_104 hG.I hG.R x4 x5) (by decide) ?_
                      intro vg235 hg235
                      rcases hg235 with ⟨eg235, hg235⟩ | ⟨eg235, hg235⟩
                      ·
                        subst eg235
                        have fi_6659 : ((0 : Int) ≤ (i 6659).toInt) ∧ ((i 6659).toInt ≤ 60) := hG.I.1 6659
                        have z236 : ((0 : Int) ≤ x5.toInt) ∧ (x5.toInt ≤ (i 6659).toInt) ∧ ((0 : Int) ≤ x4.toInt) ∧ ((x4.toInt + x5.toInt) ≤ (i 6659).toInt) := hg235
                        first | refine ft_go mi_k117 8 126 [(7, .ref 104), (6, .ref 108), (0, .ref 0), (1, .int x1), (2, .int x2), (3, .int x3), (4, .int x4), (5, .int x5)] [.int x5, .int x4, .ref 105, .int x2, .ref 109] i a q r (by rfl) ?_ | refine ko_steps mi_in117 8 _ (126, [(7, .ref 104), (6, .ref 108), (0, .ref 0), (1, .int x1), (2, .int x2), (3, .int x3), (4, .int x4), (5, .int x5)], [.int x5, .int x4, .ref 105, .int x2, .ref 109], (0, 0), ks i a q r) (by rfl) ?_
                        have hJ237 := kG_q hG 105 rfl (z := mi_cpy (q 109) (q 105) x2.toNatClampNeg x4.toNatClampNeg x5.toNatClampNeg) (kcpy_len2 (n := 60) (c := 60) (m := 60) (b := 60) (sp := x2) (dp := x4) (n1 := x5) (hG.I.2.2.2 109) rfl (hG.I.2.2.2 105) rfl (oz3 z234.1) (oz3 z234.2.2.1) (oz3 z236.2.2.1) (oz1278 fi_6915.2 z234.2.2.2) (oz1278 fi_6659.2 z236.2.2.2))
                        refine ko_copyL2 mi_k117.1 (l := q 109) (g := q 105) (n := 60) (c := 60) (m := 60) (b := 60) (mi_k117.2 _ _ (by rfl)) (by rfl) (by rfl) (by rfl) (by rfl) (by rfl) (hG.I.2.2.2 109) rfl (hG.I.2.2.2 105) rfl (oz3 z234.1) (oz3 z234.2.2.1) (oz3 z236.2.2.1) (oz1278 fi_6915.2 z234.2.2.2) (oz1278 fi_6659.2 z236.2.2.2) (h5 := ks i a (ku q 105 (mi_cpy (q 109) (q 105) x2.toNatClampNeg x4.toNatClampNeg x5.toNatClampNeg)) r) (by rfl) ?_
                        first | refine ft_go mi_k117 1 131 [(7, .ref 104), (6, .ref 108), (0, .ref 0), (1, .int x1), (2, .int x2), (3, .int x3), (4, .int x4), (5, .int x5)] [.int x5] i a (ku q 105 (mi_cpy (q 109) (q 105) x2.toNatClampNeg x4.toNatClampNeg x5.toNatClampNeg)) r (by rfl) ?_ | refine ko_steps mi_in117 1 _ (131, [(7, .ref 104), (6, .ref 108), (0, .ref 0), (1, .int x1), (2, .int x2), (3, .int x3), (4, .int x4), (5, .int x5)], [.int x5], (0, 0), ks i a (ku q 105 (mi_cpy (q 109) (q 105) x2.toNatClampNeg x4.toNatClampNeg x5.toNatClampNeg)) r) (by rfl) ?_
                        exact ft_ret mi_k117 (by rfl) (hP x5 _ _ _ _ hJ237 trivial)
                      ·
                        subst eg235
                        have fi_6659 : ((0 : Int) ≤ (i 6659).toInt) ∧ ((i 6659).toInt ≤ 60) := hG.I.1 6659
                        have z238 : ¬ (((0 : Int) ≤ x5.toInt) ∧ (x5.toInt ≤ (i 6659).toInt) ∧ ((0 : Int) ≤ x4.toInt) ∧ ((x4.toInt + x5.toInt) ≤ (i 6659).toInt)) := hg235
                        first | refine ft_go mi_k117 2 110 [(7, .ref 104), (6, .ref 108), (0, .ref 0), (1, .int x1), (2, .int x2), (3, .int x3), (4, .int x4), (5, .int x5)] [.int (-13)] i a q r (by rfl) ?_ | refine ko_steps mi_in117 2 _ (110, [(7, .ref 104), (6, .ref 108), (0, .ref 0), (1, .int x1), (2, .int x2), (3, .int x3), (4, .int x4), (5, .int x5)], [.int (-13)], (0, 0), ks i a q r) (by rfl) ?_
                        exact ft_ret mi_k117 (by rfl) (hP (-13) _ _ _ _ hG trivial)
                    ·
                      subst eg233
                      have fi_6915 : ((0 : Int) ≤ (i 6915).toInt) ∧ ((i 6915).toInt ≤ 60) := hG.I.1 6915
                      have z239 : ¬ (((0 : Int) ≤ x5.toInt) ∧ (x5.toInt ≤ (i 6915).toInt) ∧ ((0 : Int) ≤ x2.toInt) ∧ ((x2.toInt + x5.toInt) ≤ (i 6915).toInt)) := hg233
                      first | refine ft_go mi_k117 2 110 [(7, .ref 104), (6, .ref 108), (0, .ref 0), (1, .int x1), (2, .int x2), (3, .int x3), (4, .int x4), (5, .int x5)] [.int (-13)] i a q r (by rfl) ?_ | refine ko_steps mi_in117 2 _ (110, [(7, .ref 104), (6, .ref 108), (0, .ref 0), (1, .int x1), (2, .int x2), (3, .int x3), (4, .int x4), (5, .int x5)], [.int (-13)], (0, 0), ks i a q r) (by rfl) ?_
                      exact ft_ret mi_k117 (by rfl) (hP (-13) _ _ _ _ hG trivial)
                  ·
                    have c240 : (i 6914).toInt ≠ (i 6658).toInt := kd_eqF c; clear c
                    first | refine ft_go mi_k117 1 84 [(7, .ref 104), (6, .ref 108), (0, .ref 0), (1, .int x1), (2, .int x2), (3, .int x3), (4, .int x4), (5, .int x5)] [.int (-12)] i a q r (by rfl) ?_ | refine ko_steps mi_in117 1 _ (84, [(7, .ref 104), (6, .ref 108), (0, .ref 0), (1, .int x1), (2, .int x2), (3, .int x3), (4, .int x4), (5, .int x5)], [.int (-12)], (0, 0), ks i a q r) (by rfl) ?_
                    exact ft_ret mi_k117 (by rfl) (hP (-12) _ _ _ _ hG trivial)
            ·
              have c241 : (i 6656).toInt = (0 : Int32).toInt := kd_neF c; clear c
              first | refine ft_go mi_k117 1 50 [(7, .ref 104), (6, .ref 108), (0, .ref 0), (1, .int x1), (2, .int x2), (3, .int x3), (4, .int x4), (5, .int x5)] [.int (-11)] i a q r (by rfl) ?_ | refine ko_steps mi_in117 1 _ (50, [(7, .ref 104), (6, .ref 108), (0, .ref 0), (1, .int x1), (2, .int x2), (3, .int x3), (4, .int x4), (5, .int x5)], [.int (-11)], (0, 0), ks i a q r) (by rfl) ?_
              exact ft_ret mi_k117 (by rfl) (hP (-11) _ _ _ _ hG trivial)
        by_cases w242 : x3.toInt = 1
        ·
          refine ko_eq (x1 := (29, [(6, .ref 108), (0, .ref 0), (1, .int x1), (2, .int x2), (3, .int x3), (4, .int x4), (5, .int x5)], [.int 1, .ref 97], (0, 0), ks i a q r)) (by rw [(kj_eq w242 (by decide) : x3 = 1)]) ?_
          have fi_6912 : ((0 : Int) ≤ (i 6912).toInt) ∧ ((i 6912).toInt ≤ 2) := hG.I.1 6912
          first | refine ft_go mi_k117 4 37 [(7, .ref 106), (6, .ref 108), (0, .ref 0), (1, .int x1), (2, .int x2), (3, .int x3), (4, .int x4), (5, .int x5)] [.int (i 6912)] i a q r (by rfl) ?_ | refine ko_steps mi_in117 4 _ (37, [(7, .ref 106), (6, .ref 108), (0, .ref 0), (1, .int x1), (2, .int x2), (3, .int x3), (4, .int x4), (5, .int x5)], [.int (i 6912)], (0, 0), ks i a q r) (by rfl) ?_
          refine ft_if mi_k117 ((i 6912) == 0) 48 40 [(7, .ref 106), (6, .ref 108), (0, .ref 0), (1, .int x1), (2, .int x2), (3, .int x3), (4, .int x4), (5, .int x5)] [] (by rfl) (fun c => ?_) (fun c => ?_)
          ·
            have c243 : (i 6912).toInt = (0 : Int32).toInt := kd_eq c; clear c
            first | refine ft_go mi_k117 1 50 [(7, .ref 106), (6, .ref 108), (0, .ref 0), (1, .int x1), (2, .int x2), (3, .int x3), (4, .int x4), (5, .int x5)] [.int (-11)] i a q r (by rfl) ?_ | refine ko_steps mi_in117 1 _ (50, [(7, .ref 106), (6, .ref 108), (0, .ref 0), (1, .int x1), (2, .int x2), (3, .int x3), (4, .int x4), (5, .int x5)], [.int (-11)], (0, 0), ks i a q r) (by rfl) ?_
            exact ft_ret mi_k117 (by rfl) (hP (-11) _ _ _ _ hG trivial)
          ·
            have c244 : (i 6912).toInt ≠ (0 : Int32).toInt := kd_eqF c; clear c
            have fi_6784 : ((0 : Int) ≤ (i 6784).toInt) ∧ ((i 6784).toInt ≤ 2) := hG.I.1 6784
            first | refine ft_go mi_k117 2 45 [(7, .ref 106), (6, .ref 108), (0, .ref 0), (1, .int x1), (2, .int x2), (3, .int x3), (4, .int x4), (5, .int x5)] [.int (i 6784)] i a q r (by rfl) ?_ | refine ko_steps mi_in117 2 _ (45, [(7, .ref 106), (6, .ref 108), (0, .ref 0), (1, .int x1), (2, .int x2), (3, .int x3), (4, .int x4), (5, .int x5)], [.int (i 6784)], (0, 0), ks i a q r) (by rfl) ?_
            refine ft_if mi_k117 ((i 6784) != 0) 51 48 [(7, .ref 106), (6, .ref 108), (0, .ref 0), (1, .int x1), (2, .int x2), (3, .int x3), (4, .int x4), (5, .int x5)] [] (by rfl) (fun c => ?_) (fun c => ?_)
            ·
              have c245 : (i 6784).toInt ≠ (0 : Int32).toInt := kd_ne c; clear c
              first | refine ft_go mi_k117 3 57 [(7, .ref 106), (6, .ref 108), (0, .ref 0), (1, .int x1), (2, .int x2), (3, .int x3), (4, .int x4), (5, .int x5)] [.int 2, .int (i 6912)] i a q r (by rfl) ?_ | refine ko_steps mi_in117 3 _ (57, [(7, .ref 106), (6, .ref 108), (0, .ref 0), (1, .int x1), (2, .int x2), (3, .int x3), (4, .int x4), (5, .int x5)], [.int 2, .int (i 6912)], (0, 0), ks i a q r) (by rfl) ?_
              refine ft_if mi_k117 ((i 6912) != 2) 82 60 [(7, .ref 106), (6, .ref 108), (0, .ref 0), (1, .int x1), (2, .int x2), (3, .int x3), (4, .int x4), (5, .int x5)] [] (by rfl) (fun c => ?_) (fun c => ?_)
              ·
                have c246 : (i 6912).toInt ≠ (2 : Int32).toInt := kd_ne c; clear c
                first | refine ft_go mi_k117 1 84 [(7, .ref 106), (6, .ref 108), (0, .ref 0), (1, .int x1), (2, .int x2), (3, .int x3), (4, .int x4), (5, .int x5)] [.int (-12)] i a q r (by rfl) ?_ | refine ko_steps mi_in117 1 _ (84, [(7, .ref 106), (6, .ref 108), (0, .ref 0), (1, .int x1), (2, .int x2), (3, .int x3), (4, .int x4), (5, .int x5)], [.int (-12)], (0, 0), ks i a q r) (by rfl) ?_
                exact ft_ret mi_k117 (by rfl) (hP (-12) _ _ _ _ hG trivial)
              ·
                have c247 : (i 6912).toInt = (2 : Int32).toInt := kd_neF c; clear c
                first | refine ft_go mi_k117 3 66 [(7, .ref 106), (6, .ref 108), (0, .ref 0), (1, .int x1), (2, .int x2), (3, .int x3), (4, .int x4), (5, .int x5)] [.int 2, .int (i 6784)] i a q r (by rfl) ?_ | refine ko_steps mi_in117 3 _ (66, [(7, .ref 106), (6, .ref 108), (0, .ref 0), (1, .int x1), (2, .int x2), (3, .int x3), (4, .int x4), (5, .int x5)], [.int 2, .int (i 6784)], (0, 0), ks i a q r) (by rfl) ?_
                refine ft_if mi_k117 ((i 6784) != 2) 82 69 [(7, .ref 106), (6, .ref 108), (0, .ref 0), (1, .int x1), (2, .int x2), (3, .int x3), (4, .int x4), (5, .int x5)] [] (by rfl) (fun c => ?_) (fun c => ?_)
                ·
                  have c248 : (i 6784).toInt ≠ (2 : Int32).toInt := kd_ne c; clear c
                  first | refine ft_go mi_k117 1 84 [(7, .ref 106), (6, .ref 108), (0, .ref 0), (1, .int x1), (2, .int x2), (3, .int x3), (4, .int x4), (5, .int x5)] [.int (-12)] i a q r (by rfl) ?_ | refine ko_steps mi_in117 1 _ (84, [(7, .ref 106), (6, .ref 108), (0, .ref 0), (1, .int x1), (2, .int x2), (3, .int x3), (4, .int x4), (5, .int x5)], [.int (-12)], (0, 0), ks i a q r) (by rfl) ?_
                  exact ft_ret mi_k117 (by rfl) (hP (-12) _ _ _ _ hG trivial)
                ·
                  have c249 : (i 6784).toInt = (2 : Int32).toInt := kd_neF c; clear c
                  have fi_6914 : ((0 : Int) ≤ (i 6914).toInt) ∧ ((i 6914).toInt ≤ 4) := hG.I.1 6914
                  have fi_6786 : ((0 : Int) ≤ (i 6786).toInt) ∧ ((i 6786).toInt ≤ 4) := hG.I.1 6786
                  first | refine ft_go mi_k117 4 79 [(7, .ref 106), (6, .ref 108), (0, .ref 0), (1, .int x1), (2, .int x2), (3, .int x3), (4, .int x4), (5, .int x5)] [.int (i 6786), .int (i 6914)] i a q r (by rfl) ?_ | refine ko_steps mi_in117 4 _ (79, [(7, .ref 106), (6, .ref 108), (0, .ref 0), (1, .int x1), (2, .int x2), (3, .int x3), (4, .int x4), (5, .int x5)], [.int (i 6786), .int (i 6914)], (0, 0), ks i a q r) (by rfl) ?_
                  refine ft_if mi_k117 ((i 6914) == (i 6786)) 85 82 [(7, .ref 106), (6, .ref 108), (0, .ref 0), (1, .int x1), (2, .int x2), (3, .int x3), (4, .int x4), (5, .int x5)] [] (by rfl) (fun c => ?_) (fun c => ?_)
                  ·
                    have c250 : (i 6914).toInt = (i 6786).toInt := kd_eq c; clear c
                    first | refine ft_go mi_k117 3 90 [(7, .ref 106), (6, .ref 108), (0, .ref 0), (1, .int x1), (2, .int x2), (3, .int x3), (4, .int x4), (5, .int x5)] [.int x5, .int x2, .ref 108] i a q r (by rfl) ?_ | refine ko_steps mi_in117 3 _ (90, [(7, .ref 106), (6, .ref 108), (0, .ref 0), (1, .int x1), (2, .int x2), (3, .int x3), (4, .int x4), (5, .int x5)], [.int x5, .int x2, .ref 108], (0, 0), ks i a q r) (by rfl) ?_
                    refine ko_callPI mi_k117.1 (pc := 90) (ls := [(7, .ref 106), (6, .ref 108), (0, .ref 0), (1, .int x1), (2, .int x2), (3, .int x3), (4, .int x4), (5, .int x5)]) (st := [.int x5, .int x2, .ref 108]) (h := ks i a q r) (i := (.invokevirtual 324, 3, 37, 0, 9, 0, 316)) (mi_k117.2 _ _ (by rfl)) (ft_invS mi_pq37 (by rfl)) (cy := mi_c37) mi_pq37 rfl (kc37_108 hG.I hG.R x2 x5) (by decide) ?_
                    intro vg251 hg251
                    rcases hg251 with ⟨eg251, hg251⟩ | ⟨eg251, hg251⟩
                    ·
                      subst eg251
                      have fi_6915 : ((0 : Int) ≤ (i 6915).toInt) ∧ ((i 6915).toInt ≤ 60) := hG.I.1 6915
                      have z252 : ((0 : Int) ≤ x5.toInt) ∧ (x5.toInt ≤ (i 6915).toInt) ∧ ((0 : Int) ≤ x2.toInt) ∧ ((x2.toInt + x5.toInt) ≤ (i 6915).toInt) := hg251
                      first | refine ft_go mi_k117 4 102 [(7, .ref 106), (6, .ref 108), (0, .ref 0), (1, .int x1), (2, .int x2), (3, .int x3), (4, .int x4), (5, .int x5)] [.int x5, .int x4, .ref 106] i a q r (by rfl) ?_ | refine ko_steps mi_in117 4 _ (102, [(7, .ref 106), (6, .ref 108), (0, .ref 0), (1, .int x1), (2, .int x2), (3, .int x3), (4, .int x4), (5, .int x5)], [.int x5, .int x4, .ref 106], (0, 0), ks i a q r) (by rfl) ?_
                      refine ko_callPI mi_k117.1 (pc := 102) (ls := [(7, .ref 106), (6, .ref 108), (0, .ref 0), (1, .int x1), (2, .int x2), (3, .int x3), (4, .int x4), (5, .int x5)]) (st := [.int x5, .int x4, .ref 106]) (h := ks i a q r) (i := (.invokevirtual 324, 3, 37, 0, 9, 0, 316)) (mi_k117.2 _ _ (by rfl)) (ft_invS mi_pq37 (by rfl)) (cy := mi_c37) mi_pq37 rfl (kc37_106 hG.I hG.R x4 x5) (by decide) ?_
                      intro vg253 hg253
                      rcases hg253 with ⟨eg253, hg253⟩ | ⟨eg253, hg253⟩
                      ·
                        subst eg253
                        have fi_6787 : ((0 : Int) ≤ (i 6787).toInt) ∧ ((i 6787).toInt ≤ 60) := hG.I.1 6787
                        have z254 : ((0 : Int) ≤ x5.toInt) ∧ (x5.toInt ≤ (i 6787).toInt) ∧ ((0 : Int) ≤ x4.toInt) ∧ ((x4.toInt + x5.toInt) ≤ (i 6787).toInt) := hg253
                        first | refine ft_go mi_k117 8 126 [(7, .ref 106), (6, .ref 108), (0, .ref 0), (1, .int x1), (2, .int x2), (3, .int x3), (4, .int x4), (5, .int x5)] [.int x5, .int x4, .ref 107, .int x2, .ref 109] i a q r (by rfl) ?_ | refine ko_steps mi_in117 8 _ (126, [(7, .ref 106), (6, .ref 108), (0, .ref 0), (1, .int x1), (2, .int x2), (3, .int x3), (4, .int x4), (5, .int x5)], [.int x5, .int x4, .ref 107, .int x2, .ref 109], (0, 0), ks i a q r) (by rfl) ?_
                        have hJ255 := kG_q hG 107 rfl (z := mi_cpy (q 109) (q 107) x2.toNatClampNeg x4.toNatClampNeg x5.toNatClampNeg) (kcpy_len2 (n := 60) (c := 60) (m := 60) (b := 60) (sp := x2) (dp := x4) (n1 := x5) (hG.I.2.2.2 109) rfl (hG.I.2.2.2 107) rfl (oz3 z252.1) (oz3 z252.2.2.1) (oz3 z254.2.2.1) (oz1278 fi_6915.2 z252.2.2.2) (oz1278 fi_6787.2 z254.2.2.2))
                        refine ko_copyL2 mi_k117.1 (l := q 109) (g := q 107) (n := 60) (c := 60) (m := 60) (b := 60) (mi_k117.2 _ _ (by rfl)) (by rfl) (by rfl) (by rfl) (by rfl) (by rfl) (hG.I.2.2.2 109) rfl (hG.I.2.2.2 107) rfl (oz3 z252.1) (oz3 z252.2.2.1) (oz3 z254.2.2.1) (oz1278 fi_6915.2 z252.2.2.2) (oz1278 fi_6787.2 z254.2.2.2) (h5 := ks i a (ku q 107 (mi_cpy (q 109) (q 107) x2.toNatClampNeg x4.toNatClampNeg x5.toNatClampNeg)) r) (by rfl) ?_
                        first | refine ft_go mi_k117 1 131 [(7, .ref 106), (6, .ref 108), (0, .ref 0), (1, .int x1), (2, .int x2), (3, .int x3), (4, .int x4), (5, .int x5)] [.int x5] i a (ku q 107 (mi_cpy (q 109) (q 107) x2.toNatClampNeg x4.toNatClampNeg x5.toNatClampNeg)) r (by rfl) ?_ | refine ko_steps mi_in117 1 _ (131, [(7, .ref 106), (6, .ref 108), (0, .ref 0), (1, .int x1), (2, .int x2), (3, .int x3), (4, .int x4), (5, .int x5)], [.int x5], (0, 0), ks i a (ku q 107 (mi_cpy (q 109) (q 107) x2.toNatClampNeg x4.toNatClampNeg x5.toNatClampNeg)) r) (by rfl) ?_
                        exact ft_ret mi_k117 (by rfl) (hP x5 _ _ _ _ hJ255 trivial)
                      ·
                        subst eg253
                        have fi_6787 : ((0 : Int) ≤ (i 6787).toInt) ∧ ((i 6787).toInt ≤ 60) := hG.I.1 6787
                        have z256 : ¬ (((0 : Int) ≤ x5.toInt) ∧ (x5.toInt ≤ (i 6787).toInt) ∧ ((0 : Int) ≤ x4.toInt) ∧ ((x4.toInt + x5.toInt) ≤ (i 6787).toInt)) := hg253
                        first | refine ft_go mi_k117 2 110 [(7, .ref 106), (6, .ref 108), (0, .ref 0), (1, .int x1), (2, .int x2), (3, .int x3), (4, .int x4), (5, .int x5)] [.int (-13)] i a q r (by rfl) ?_ | refine ko_steps mi_in117 2 _ (110, [(7, .ref 106), (6, .ref 108), (0, .ref 0), (1, .int x1), (2, .int x2), (3, .int x3), (4, .int x4), (5, .int x5)], [.int (-13)], (0, 0), ks i a q r) (by rfl) ?_
                        exact ft_ret mi_k117 (by rfl) (hP (-13) _ _ _ _ hG trivial)
                    ·
                      subst eg251
                      have fi_6915 : ((0 : Int) ≤ (i 6915).toInt) ∧ ((i 6915).toInt ≤ 60) := hG.I.1 6915
                      have z257 : ¬ (((0 : Int) ≤ x5.toInt) ∧ (x5.toInt ≤ (i 6915).toInt) ∧ ((0 : Int) ≤ x2.toInt) ∧ ((x2.toInt + x5.toInt) ≤ (i 6915).toInt)) := hg251
                      first | refine ft_go mi_k117 2 110 [(7, .ref 106), (6, .ref 108), (0, .ref 0), (1, .int x1), (2, .int x2), (3, .int x3), (4, .int x4), (5, .int x5)] [.int (-13)] i a q r (by rfl) ?_ | refine ko_steps mi_in117 2 _ (110, [(7, .ref 106), (6, .ref 108), (0, .ref 0), (1, .int x1), (2, .int x2), (3, .int x3), (4, .int x4), (5, .int x5)], [.int (-13)], (0, 0), ks i a q r) (by rfl) ?_
                      exact ft_ret mi_k117 (by rfl) (hP (-13) _ _ _ _ hG trivial)
                  ·
                    have c258 : (i 6914).toInt ≠ (i 6786).toInt := kd_eqF c; clear c
                    first | refine ft_go mi_k117 1 84 [(7, .ref 106), (6, .ref 108), (0, .ref 0), (1, .int x1), (2, .int x2), (3, .int x3), (4, .int x4), (5, .int x5)] [.int (-12)] i a q r (by rfl) ?_ | refine ko_steps mi_in117 1 _ (84, [(7, .ref 106), (6, .ref 108), (0, .ref 0), (1, .int x1), (2, .int x2), (3, .int x3), (4, .int x4), (5, .int x5)], [.int (-12)], (0, 0), ks i a q r) (by rfl) ?_
                    exact ft_ret mi_k117 (by rfl) (hP (-12) _ _ _ _ hG trivial)
            ·
              have c259 : (i 6784).toInt = (0 : Int32).toInt := kd_neF c; clear c
              first | refine ft_go mi_k117 1 50 [(7, .ref 106), (6, .ref 108), (0, .ref 0), (1, .int x1), (2, .int x2), (3, .int x3), (4, .int x4), (5, .int x5)] [.int (-11)] i a q r (by rfl) ?_ | refine ko_steps mi_in117 1 _ (50, [(7, .ref 106), (6, .ref 108), (0, .ref 0), (1, .int x1), (2, .int x2), (3, .int x3), (4, .int x4), (5, .int x5)], [.int (-11)], (0, 0), ks i a q r) (by rfl) ?_
              exact ft_ret mi_k117 (by rfl) (hP (-11) _ _ _ _ hG trivial)
        by_cases w260 : x3.toInt = 2
        ·
          refine ko_eq (x1 := (29, [(6, .ref 108), (0, .ref 0), (1, .int x1), (2, .int x2), (3, .int x3), (4, .int x4), (5, .int x5)], [.int 2, .ref 97], (0, 0), ks i a q r)) (by rw [(kj_eq w260 (by decide) : x3 = 2)]) ?_
          have fi_6912 : ((0 : Int) ≤ (i 6912).toInt) ∧ ((i 6912).toInt ≤ 2) := hG.I.1 6912
          first | refine ft_go mi_k117 4 37 [(7, .ref 108), (6, .ref 108), (0, .ref 0), (1, .int x1), (2, .int x2), (3, .int x3), (4, .int x4), (5, .int x5)] [.int (i 6912)] i a q r (by rfl) ?_ | refine ko_steps mi_in117 4 _ (37, [(7, .ref 108), (6, .ref 108), (0, .ref 0), (1, .int x1), (2, .int x2), (3, .int x3), (4, .int x4), (5, .int x5)], [.int (i 6912)], (0, 0), ks i a q r) (by rfl) ?_
          refine ft_if mi_k117 ((i 6912) == 0) 48 40 [(7, .ref 108), (6, .ref 108), (0, .ref 0), (1, .int x1), (2, .int x2), (3, .int x3), (4, .int x4), (5, .int x5)] [] (by rfl) (fun c => ?_) (fun c => ?_)
          ·
            have c261 : (i 6912).toInt = (0 : Int32).toInt := kd_eq c; clear c
            first | refine ft_go mi_k117 1 50 [(7, .ref 108), (6, .ref 108), (0, .ref 0), (1, .int x1), (2, .int x2), (3, .int x3), (4, .int x4), (5, .int x5)] [.int (-11)] i a q r (by rfl) ?_ | refine ko_steps mi_in117 1 _ (50, [(7, .ref 108), (6, .ref 108), (0, .ref 0), (1, .int x1), (2, .int x2), (3, .int x3), (4, .int x4), (5, .int x5)], [.int (-11)], (0, 0), ks i a q r) (by rfl) ?_
            exact ft_ret mi_k117 (by rfl) (hP (-11) _ _ _ _ hG trivial)
          ·
            have c262 : (i 6912).toInt ≠ (0 : Int32).toInt := kd_eqF c; clear c
            first | refine ft_go mi_k117 2 45 [(7, .ref 108), (6, .ref 108), (0, .ref 0), (1, .int x1), (2, .int x2), (3, .int x3), (4, .int x4), (5, .int x5)] [.int (i 6912)] i a q r (by rfl) ?_ | refine ko_steps mi_in117 2 _ (45, [(7, .ref 108), (6, .ref 108), (0, .ref 0), (1, .int x1), (2, .int x2), (3, .int x3), (4, .int x4), (5, .int x5)], [.int (i 6912)], (0, 0), ks i a q r) (by rfl) ?_
            refine ft_if mi_k117 ((i 6912) != 0) 51 48 [(7, .ref 108), (6, .ref 108), (0, .ref 0), (1, .int x1), (2, .int x2), (3, .int x3), (4, .int x4), (5, .int x5)] [] (by rfl) (fun c => ?_) (fun c => ?_)
            ·
              have c263 : (i 6912).toInt ≠ (0 : Int32).toInt := kd_ne c; clear c
              first | refine ft_go mi_k117 3 57 [(7, .ref 108), (6, .ref 108), (0, .ref 0), (1, .int x1), (2, .int x2), (3, .int x3), (4, .int x4), (5, .int x5)] [.int 2, .int (i 6912)] i a q r (by rfl) ?_ | refine ko_steps mi_in117 3 _ (57, [(7, .ref 108), (6, .ref 108), (0, .ref 0), (1, .int x1), (2, .int x2), (3, .int x3), (4, .int x4), (5, .int x5)], [.int 2, .int (i 6912)], (0, 0), ks i a q r) (by rfl) ?_
              refine ft_if mi_k117 ((i 6912) != 2) 82 60 [(7, .ref 108), (6, .ref 108), (0, .ref 0), (1, .int x1), (2, .int x2), (3, .int x3), (4, .int x4), (5, .int x5)] [] (by rfl) (fun c => ?_) (fun c => ?_)
              ·
                have c264 : (i 6912).toInt ≠ (2 : Int32).toInt := kd_ne c; clear c
                first | refine ft_go mi_k117 1 84 [(7, .ref 108), (6, .ref 108), (0, .ref 0), (1, .int x1), (2, .int x2), (3, .int x3), (4, .int x4), (5, .int x5)] [.int (-12)] i a q r (by rfl) ?_ | refine ko_steps mi_in117 1 _ (84, [(7, .ref 108), (6, .ref 108), (0, .ref 0), (1, .int x1), (2, .int x2), (3, .int x3), (4, .int x4), (5, .int x5)], [.int (-12)], (0, 0), ks i a q r) (by rfl) ?_
                exact ft_ret mi_k117 (by rfl) (hP (-12) _ _ _ _ hG trivial)
              ·
                have c265 : (i 6912).toInt = (2 : Int32).toInt := kd_neF c; clear c
                first | refine ft_go mi_k117 3 66 [(7, .ref 108), (6, .ref 108), (0, .ref 0), (1, .int x1), (2, .int x2), (3, .int x3), (4, .int x4), (5, .int x5)] [.int 2, .int (i 6912)] i a q r (by rfl) ?_ | refine ko_steps mi_in117 3 _ (66, [(7, .ref 108), (6, .ref 108), (0, .ref 0), (1, .int x1), (2, .int x2), (3, .int x3), (4, .int x4), (5, .int x5)], [.int 2, .int (i 6912)], (0, 0), ks i a q r) (by rfl) ?_
                refine ft_if mi_k117 ((i 6912) != 2) 82 69 [(7, .ref 108), (6, .ref 108), (0, .ref 0), (1, .int x1), (2, .int x2), (3, .int x3), (4, .int x4), (5, .int x5)] [] (by rfl) (fun c => ?_) (fun c => ?_)
                ·
                  have c266 : (i 6912).toInt ≠ (2 : Int32).toInt := kd_ne c; clear c
                  exact (oz1271 c265 c266 fi_6912.2 kn2).elim
                ·
                  have c267 : (i 6912).toInt = (2 : Int32).toInt := kd_neF c; clear c
                  have fi_6914 : ((0 : Int) ≤ (i 6914).toInt) ∧ ((i 6914).toInt ≤ 4) := hG.I.1 6914
                  first | refine ft_go mi_k117 4 79 [(7, .ref 108), (6, .ref 108), (0, .ref 0), (1, .int x1), (2, .int x2), (3, .int x3), (4, .int x4), (5, .int x5)] [.int (i 6914), .int (i 6914)] i a q r (by rfl) ?_ | refine ko_steps mi_in117 4 _ (79, [(7, .ref 108), (6, .ref 108), (0, .ref 0), (1, .int x1), (2, .int x2), (3, .int x3), (4, .int x4), (5, .int x5)], [.int (i 6914), .int (i 6914)], (0, 0), ks i a q r) (by rfl) ?_
                  refine ft_if mi_k117 ((i 6914) == (i 6914)) 85 82 [(7, .ref 108), (6, .ref 108), (0, .ref 0), (1, .int x1), (2, .int x2), (3, .int x3), (4, .int x4), (5, .int x5)] [] (by rfl) (fun c => ?_) (fun c => ?_)
                  ·
                    have c268 : (i 6914).toInt = (i 6914).toInt := kd_eq c; clear c
                    first | refine ft_go mi_k117 3 90 [(7, .ref 108), (6, .ref 108), (0, .ref 0), (1, .int x1), (2, .int x2), (3, .int x3), (4, .int x4), (5, .int x5)] [.int x5, .int x2, .ref 108] i a q r (by rfl) ?_ | refine ko_steps mi_in117 3 _ (90, [(7, .ref 108), (6, .ref 108), (0, .ref 0), (1, .int x1), (2, .int x2), (3, .int x3), (4, .int x4), (5, .int x5)], [.int x5, .int x2, .ref 108], (0, 0), ks i a q r) (by rfl) ?_
                    refine ko_callPI mi_k117.1 (pc := 90) (ls := [(7, .ref 108), (6, .ref 108), (0, .ref 0), (1, .int x1), (2, .int x2), (3, .int x3), (4, .int x4), (5, .int x5)]) (st := [.int x5, .int x2, .ref 108]) (h := ks i a q r) (i := (.invokevirtual 324, 3, 37, 0, 9, 0, 316)) (mi_k117.2 _ _ (by rfl)) (ft_invS mi_pq37 (by rfl)) (cy := mi_c37) mi_pq37 rfl (kc37_108 hG.I hG.R x2 x5) (by decide) ?_
                    intro vg269 hg269
                    rcases hg269 with ⟨eg269, hg269⟩ | ⟨eg269, hg269⟩
                    ·
                      subst eg269
                      have fi_6915 : ((0 : Int) ≤ (i 6915).toInt) ∧ ((i 6915).toInt ≤ 60) := hG.I.1 6915
                      have z270 : ((0 : Int) ≤ x5.toInt) ∧ (x5.toInt ≤ (i 6915).toInt) ∧ ((0 : Int) ≤ x2.toInt) ∧ ((x2.toInt + x5.toInt) ≤ (i 6915).toInt) := hg269
                      first | refine ft_go mi_k117 4 102 [(7, .ref 108), (6, .ref 108), (0, .ref 0), (1, .int x1), (2, .int x2), (3, .int x3), (4, .int x4), (5, .int x5)] [.int x5, .int x4, .ref 108] i a q r (by rfl) ?_ | refine ko_steps mi_in117 4 _ (102, [(7, .ref 108), (6, .ref 108), (0, .ref 0), (1, .int x1), (2, .int x2), (3, .int x3), (4, .int x4), (5, .int x5)], [.int x5, .int x4, .ref 108], (0, 0), ks i a q r) (by rfl) ?_
                      refine ko_callPI mi_k117.1 (pc := 102) (ls := [(7, .ref 108), (6, .ref 108), (0, .ref 0), (1, .int x1), (2, .int x2), (3, .int x3), (4, .int x4), (5, .int x5)]) (st := [.int x5, .int x4, .ref 108]) (h := ks i a q r) (i := (.invokevirtual 324, 3, 37, 0, 9, 0, 316)) (mi_k117.2 _ _ (by rfl)) (ft_invS mi_pq37 (by rfl)) (cy := mi_c37) mi_pq37 rfl (kc37_108 hG.I hG.R x4 x5) (by decide) ?_
                      intro vg271 hg271
                      rcases hg271 with ⟨eg271, hg271⟩ | ⟨eg271, hg271⟩
                      ·
                        subst eg271
                        have z272 : ((0 : Int) ≤ x5.toInt) ∧ (x5.toInt ≤ (i 6915).toInt) ∧ ((0 : Int) ≤ x4.toInt) ∧ ((x4.toInt + x5.toInt) ≤ (i 6915).toInt) := hg271
                        first | refine ft_go mi_k117 8 126 [(7, .ref 108), (6, .ref 108), (0, .ref 0), (1, .int x1), (2, .int x2), (3, .int x3), (4, .int x4), (5, .int x5)] [.int x5, .int x4, .ref 109, .int x2, .ref 109] i a q r (by rfl) ?_ | refine ko_steps mi_in117 8 _ (126, [(7, .ref 108), (6, .ref 108), (0, .ref 0), (1, .int x1), (2, .int x2), (3, .int x3), (4, .int x4), (5, .int x5)], [.int x5, .int x4, .ref 109, .int x2, .ref 109], (0, 0), ks i a q r) (by rfl) ?_
                        have hJ273 := kG_q hG 109 rfl (z := mi_cpy (q 109) (q 109) x2.toNatClampNeg x4.toNatClampNeg x5.toNatClampNeg) (kcpy_len2 (n := 60) (c := 60) (m := 60) (b := 60) (sp := x2) (dp := x4) (n1 := x5) (hG.I.2.2.2 109) rfl (hG.I.2.2.2 109) rfl (oz3 z270.1) (oz3 z270.2.2.1) (oz3 z272.2.2.1) (oz1278 fi_6915.2 z270.2.2.2) (oz1278 fi_6915.2 z272.2.2.2))
                        refine ko_copyL2 mi_k117.1 (l := q 109) (g := q 109) (n := 60) (c := 60) (m := 60) (b := 60) (mi_k117.2 _ _ (by rfl)) (by rfl) (by rfl) (by rfl) (by rfl) (by rfl) (hG.I.2.2.2 109) rfl (hG.I.2.2.2 109) rfl (oz3 z270.1) (oz3 z270.2.2.1) (oz3 z272.2.2.1) (oz1278 fi_6915.2 z270.2.2.2) (oz1278 fi_6915.2 z272.2.2.2) (h5 := ks i a (ku q 109 (mi_cpy (q 109) (q 109) x2.toNatClampNeg x4.toNatClampNeg x5.toNatClampNeg)) r) (by rfl) ?_
                        first | refine ft_go mi_k117 1 131 [(7, .ref 108), (6, .ref 108), (0, .ref 0), (1, .int x1), (2, .int x2), (3, .int x3), (4, .int x4), (5, .int x5)] [.int x5] i a (ku q 109 (mi_cpy (q 109) (q 109) x2.toNatClampNeg x4.toNatClampNeg x5.toNatClampNeg)) r (by rfl) ?_ | refine ko_steps mi_in117 1 _ (131, [(7, .ref 108), (6, .ref 108), (0, .ref 0), (1, .int x1), (2, .int x2), (3, .int x3), (4, .int x4), (5, .int x5)], [.int x5], (0, 0), ks i a (ku q 109 (mi_cpy (q 109) (q 109) x2.toNatClampNeg x4.toNatClampNeg x5.toNatClampNeg)) r) (by rfl) ?_
                        exact ft_ret mi_k117 (by rfl) (hP x5 _ _ _ _ hJ273 trivial)
                      ·
                        subst eg271
                        have z274 : ¬ (((0 : Int) ≤ x5.toInt) ∧ (x5.toInt ≤ (i 6915).toInt) ∧ ((0 : Int) ≤ x4.toInt) ∧ ((x4.toInt + x5.toInt) ≤ (i 6915).toInt)) := hg271
                        first | refine ft_go mi_k117 2 110 [(7, .ref 108), (6, .ref 108), (0, .ref 0), (1, .int x1), (2, .int x2), (3, .int x3), (4, .int x4), (5, .int x5)] [.int (-13)] i a q r (by rfl) ?_ | refine ko_steps mi_in117 2 _ (110, [(7, .ref 108), (6, .ref 108), (0, .ref 0), (1, .int x1), (2, .int x2), (3, .int x3), (4, .int x4), (5, .int x5)], [.int (-13)], (0, 0), ks i a q r) (by rfl) ?_
                        exact ft_ret mi_k117 (by rfl) (hP (-13) _ _ _ _ hG trivial)
                    ·
                      subst eg269
                      have fi_6915 : ((0 : Int) ≤ (i 6915).toInt) ∧ ((i 6915).toInt ≤ 60) := hG.I.1 6915
                      have z275 : ¬ (((0 : Int) ≤ x5.toInt) ∧ (x5.toInt ≤ (i 6915).toInt) ∧ ((0 : Int) ≤ x2.toInt) ∧ ((x2.toInt + x5.toInt) ≤ (i 6915).toInt)) := hg269
                      first | refine ft_go mi_k117 2 110 [(7, .ref 108), (6, .ref 108), (0, .ref 0), (1, .int x1), (2, .int x2), (3, .int x3), (4, .int x4), (5, .int x5)] [.int (-13)] i a q r (by rfl) ?_ | refine ko_steps mi_in117 2 _ (110, [(7, .ref 108), (6, .ref 108), (0, .ref 0), (1, .int x1), (2, .int x2), (3, .int x3), (4, .int x4), (5, .int x5)], [.int (-13)], (0, 0), ks i a q r) (by rfl) ?_
                      exact ft_ret mi_k117 (by rfl) (hP (-13) _ _ _ _ hG trivial)
                  ·
                    have c276 : (i 6914).toInt ≠ (i 6914).toInt := kd_eqF c; clear c
                    exact (oz1279 c276).elim
            ·
              have c277 : (i 6912).toInt = (0 : Int32).toInt := kd_neF c; clear c
              exact (oz1281 c262 c277 fi_6912.1 kn0).elim
        by_cases w278 : x3.toInt = 3
        ·
          refine ko_eq (x1 := (29, [(6, .ref 108), (0, .ref 0), (1, .int x1), (2, .int x2), (3, .int x3), (4, .int x4), (5, .int x5)], [.int 3, .ref 97], (0, 0), ks i a q r)) (by rw [(kj_eq w278 (by decide) : x3 = 3)]) ?_
          have fi_6912 : ((0 : Int) ≤ (i 6912).toInt) ∧ ((i 6912).toInt ≤ 2) := hG.I.1 6912
          first | refine ft_go mi_k117 4 37 [(7, .ref 110), (6, .ref 108), (0, .ref 0), (1, .int x1), (2, .int x2), (3, .int x3), (4, .int x4), (5, .int x5)] [.int (i 6912)] i a q r (by rfl) ?_ | refine ko_steps mi_in117 4 _ (37, [(7, .ref 110), (6, .ref 108), (0, .ref 0), (1, .int x1), (2, .int x2), (3, .int x3), (4, .int x4), (5, .int x5)], [.int (i 6912)], (0, 0), ks i a q r) (by rfl) ?_
          refine ft_if mi_k117 ((i 6912) == 0) 48 40 [(7, .ref 110), (6, .ref 108), (0, .ref 0), (1, .int x1), (2, .int x2), (3, .int x3), (4, .int x4), (5, .int x5)] [] (by rfl) (fun c => ?_) (fun c => ?_)
          ·
            have c279 : (i 6912).toInt = (0 : Int32).toInt := kd_eq c; clear c
            first | refine ft_go mi_k117 1 50 [(7, .ref 110), (6, .ref 108), (0, .ref 0), (1, .int x1), (2, .int x2), (3, .int x3), (4, .int x4), (5, .int x5)] [.int (-11)] i a q r (by rfl) ?_ | refine ko_steps mi_in117 1 _ (50, [(7, .ref 110), (6, .ref 108), (0, .ref 0), (1, .int x1), (2, .int x2), (3, .int x3), (4, .int x4), (5, .int x5)], [.int (-11)], (0, 0), ks i a q r) (by rfl) ?_
            exact ft_ret mi_k117 (by rfl) (hP (-11) _ _ _ _ hG trivial)
          ·
            have c280 : (i 6912).toInt ≠ (0 : Int32).toInt := kd_eqF c; clear c
            have fi_7040 : ((0 : Int) ≤ (i 7040).toInt) ∧ ((i 7040).toInt ≤ 2) := hG.I.1 7040
            first | refine ft_go mi_k117 2 45 [(7, .ref 110), (6, .ref 108), (0, .ref 0), (1, .int x1), (2, .int x2), (3, .int x3), (4, .int x4), (5, .int x5)] [.int (i 7040)] i a q r (by rfl) ?_ | refine ko_steps mi_in117 2 _ (45, [(7, .ref 110), (6, .ref 108), (0, .ref 0), (1, .int x1), (2, .int x2), (3, .int x3), (4, .int x4), (5, .int x5)], [.int (i 7040)], (0, 0), ks i a q r) (by rfl) ?_
            refine ft_if mi_k117 ((i 7040) != 0) 51 48 [(7, .ref 110), (6, .ref 108), (0, .ref 0), (1, .int x1), (2, .int x2), (3, .int x3), (4, .int x4), (5, .int x5)] [] (by rfl) (fun c => ?_) (fun c => ?_)
            ·
              have c281 : (i 7040).toInt ≠ (0 : Int32).toInt := kd_ne c; clear c
              first | refine ft_go mi_k117 3 57 [(7, .ref 110), (6, .ref 108), (0, .ref 0), (1, .int x1), (2, .int x2), (3, .int x3), (4, .int x4), (5, .int x5)] [.int 2, .int (i 6912)] i a q r (by rfl) ?_ | refine ko_steps mi_in117 3 _ (57, [(7, .ref 110), (6, .ref 108), (0, .ref 0), (1, .int x1), (2, .int x2), (3, .int x3), (4, .int x4), (5, .int x5)], [.int 2, .int (i 6912)], (0, 0), ks i a q r) (by rfl) ?_
              refine ft_if mi_k117 ((i 6912) != 2) 82 60 [(7, .ref 110), (6, .ref 108), (0, .ref 0), (1, .int x1), (2, .int x2), (3, .int x3), (4, .int x4), (5, .int x5)] [] (by rfl) (fun c => ?_) (fun c => ?_)
              ·
                have c282 : (i 6912).toInt ≠ (2 : Int32).toInt := kd_ne c; clear c
                first | refine ft_go mi_k117 1 84 [(7, .ref 110), (6, .ref 108), (0, .ref 0), (1, .int x1), (2, .int x2), (3, .int x3), (4, .int x4), (5, .int x5)] [.int (-12)] i a q r (by rfl) ?_ | refine ko_steps mi_in117 1 _ (84, [(7, .ref 110), (6, .ref 108), (0, .ref 0), (1, .int x1), (2, .int x2), (3, .int x3), (4, .int x4), (5, .int x5)], [.int (-12)], (0, 0), ks i a q r) (by rfl) ?_
                exact ft_ret mi_k117 (by rfl) (hP (-12) _ _ _ _ hG trivial)
              ·
                have c283 : (i 6912).toInt = (2 : Int32).toInt := kd_neF c; clear c
                first | refine ft_go mi_k117 3 66 [(7, .ref 110), (6, .ref 108), (0, .ref 0), (1, .int x1), (2, .int x2), (3, .int x3), (4, .int x4), (5, .int x5)] [.int 2, .int (i 7040)] i a q r (by rfl) ?_ | refine ko_steps mi_in117 3 _ (66, [(7, .ref 110), (6, .ref 108), (0, .ref 0), (1, .int x1), (2, .int x2), (3, .int x3), (4, .int x4), (5, .int x5)], [.int 2, .int (i 7040)], (0, 0), ks i a q r) (by rfl) ?_
                refine ft_if mi_k117 ((i 7040) != 2) 82 69 [(7, .ref 110), (6, .ref 108), (0, .ref 0), (1, .int x1), (2, .int x2), (3, .int x3), (4, .int x4), (5, .int x5)] [] (by rfl) (fun c => ?_) (fun c => ?_)
                ·
                  have c284 : (i 7040).toInt ≠ (2 : Int32).toInt := kd_ne c; clear c
                  first | refine ft_go mi_k117 1 84 [(7, .ref 110), (6, .ref 108), (0, .ref 0), (1, .int x1), (2, .int x2), (3, .int x3), (4, .int x4), (5, .int x5)] [.int (-12)] i a q r (by rfl) ?_ | refine ko_steps mi_in117 1 _ (84, [(7, .ref 110), (6, .ref 108), (0, .ref 0), (1, .int x1), (2, .int x2), (3, .int x3), (4, .int x4), (5, .int x5)], [.int (-12)], (0, 0), ks i a q r) (by rfl) ?_
                  exact ft_ret mi_k117 (by rfl) (hP (-12) _ _ _ _ hG trivial)
                ·
                  have c285 : (i 7040).toInt = (2 : Int32).toInt := kd_neF c; clear c
                  have fi_6914 : ((0 : Int) ≤ (i 6914).toInt) ∧ ((i 6914).toInt ≤ 4) := hG.I.1 6914
                  have fi_7042 : ((0 : Int) ≤ (i 7042).toInt) ∧ ((i 7042).toInt ≤ 4) := hG.I.1 7042
                  first | refine ft_go mi_k117 4 79 [(7, .ref 110), (6, .ref 108), (0, .ref 0), (1, .int x1), (2, .int x2), (3, .int x3), (4, .int x4), (5, .int x5)] [.int (i 7042), .int (i 6914)] i a q r (by rfl) ?_ | refine ko_steps mi_in117 4 _ (79, [(7, .ref 110), (6, .ref 108), (0, .ref 0), (1, .int x1), (2, .int x2), (3, .int x3), (4, .int x4), (5, .int x5)], [.int (i 7042), .int (i 6914)], (0, 0), ks i a q r) (by rfl) ?_
                  refine ft_if mi_k117 ((i 6914) == (i 7042)) 85 82 [(7, .ref 110), (6, .ref 108), (0, .ref 0), (1, .int x1), (2, .int x2), (3, .int x3), (4, .int x4), (5, .int x5)] [] (by rfl) (fun c => ?_) (fun c => ?_)
                  ·
                    have c286 : (i 6914).toInt = (i 7042).toInt := kd_eq c; clear c
                    first | refine ft_go mi_k117 3 90 [(7, .ref 110), (6, .ref 108), (0, .ref 0), (1, .int x1), (2, .int x2), (3, .int x3), (4, .int x4), (5, .int x5)] [.int x5, .int x2, .ref 108] i a q r (by rfl) ?_ | refine ko_steps mi_in117 3 _ (90, [(7, .ref 110), (6, .ref 108), (0, .ref 0), (1, .int x1), (2, .int x2), (3, .int x3), (4, .int x4), (5, .int x5)], [.int x5, .int x2, .ref 108], (0, 0), ks i a q r) (by rfl) ?_
                    refine ko_callPI mi_k117.1 (pc := 90) (ls := [(7, .ref 110), (6, .ref 108), (0, .ref 0), (1, .int x1), (2, .int x2), (3, .int x3), (4, .int x4), (5, .int x5)]) (st := [.int x5, .int x2, .ref 108]) (h := ks i a q r) (i := (.invokevirtual 324, 3, 37, 0, 9, 0, 316)) (mi_k117.2 _ _ (by rfl)) (ft_invS mi_pq37 (by rfl)) (cy := mi_c37) mi_pq37 rfl (kc37_108 hG.I hG.R x2 x5) (by decide) ?_
                    intro vg287 hg287
                    rcases hg287 with ⟨eg287, hg287⟩ | ⟨eg287, hg287⟩
                    ·
                      subst eg287
                      have fi_6915 : ((0 : Int) ≤ (i 6915).toInt) ∧ ((i 6915).toInt ≤ 60) := hG.I.1 6915
                      have z288 : ((0 : Int) ≤ x5.toInt) ∧ (x5.toInt ≤ (i 6915).toInt) ∧ ((0 : Int) ≤ x2.toInt) ∧ ((x2.toInt + x5.toInt) ≤ (i 6915).toInt) := hg287
                      first | refine ft_go mi_k117 4 102 [(7, .ref 110), (6, .ref 108), (0, .ref 0), (1, .int x1), (2, .int x2), (3, .int x3), (4, .int x4), (5, .int x5)] [.int x5, .int x4, .ref 110] i a q r (by rfl) ?_ | refine ko_steps mi_in117 4 _ (102, [(7, .ref 110), (6, .ref 108), (0, .ref 0), (1, .int x1), (2, .int x2), (3, .int x3), (4, .int x4), (5, .int x5)], [.int x5, .int x4, .ref 110], (0, 0), ks i a q r) (by rfl) ?_
                      refine ko_callPI mi_k117.1 (pc := 102) (ls := [(7, .ref 110), (6, .ref 108), (0, .ref 0), (1, .int x1), (2, .int x2), (3, .int x3), (4, .int x4), (5, .int x5)]) (st := [.int x5, .int x4, .ref 110]) (h := ks i a q r) (i := (.invokevirtual 324, 3, 37, 0, 9, 0, 316)) (mi_k117.2 _ _ (by rfl)) (ft_invS mi_pq37 (by rfl)) (cy := mi_c37) mi_pq37 rfl (kc37_110 hG.I hG.R x4 x5) (by decide) ?_
                      intro vg289 hg289
                      rcases hg289 with ⟨eg289, hg289⟩ | ⟨eg289, hg289⟩
                      ·
                        subst eg289
                        have fi_7043 : ((0 : Int) ≤ (i 7043).toInt) ∧ ((i 7043).toInt ≤ 60) := hG.I.1 7043
                        have z290 : ((0 : Int) ≤ x5.toInt) ∧ (x5.toInt ≤ (i 7043).toInt) ∧ ((0 : Int) ≤ x4.toInt) ∧ ((x4.toInt + x5.toInt) ≤ (i 7043).toInt) := hg289
                        first | refine ft_go mi_k117 8 126 [(7, .ref 110), (6, .ref 108), (0, .ref 0), (1, .int x1), (2, .int x2), (3, .int x3), (4, .int x4), (5, .int x5)] [.int x5, .int x4, .ref 111, .int x2, .ref 109] i a q r (by rfl) ?_ | refine ko_steps mi_in117 8 _ (126, [(7, .ref 110), (6, .ref 108), (0, .ref 0), (1, .int x1), (2, .int x2), (3, .int x3), (4, .int x4), (5, .int x5)], [.int x5, .int x4, .ref 111, .int x2, .ref 109], (0, 0), ks i a q r) (by rfl) ?_
                        have hJ291 := kG_q hG 111 rfl (z := mi_cpy (q 109) (q 111) x2.toNatClampNeg x4.toNatClampNeg x5.toNatClampNeg) (kcpy_len2 (n := 60) (c := 60) (m := 60) (b := 60) (sp := x2) (dp := x4) (n1 := x5) (hG.I.2.2.2 109) rfl (hG.I.2.2.2 111) rfl (oz3 z288.1) (oz3 z288.2.2.1) (oz3 z290.2.2.1) (oz1278 fi_6915.2 z288.2.2.2) (oz1278 fi_7043.2 z290.2.2.2))
                        refine ko_copyL2 mi_k117.1 (l := q 109) (g := q 111) (n := 60) (c := 60) (m := 60) (b := 60) (mi_k117.2 _ _ (by rfl)) (by rfl) (by rfl) (by rfl) (by rfl) (by rfl) (hG.I.2.2.2 109) rfl (hG.I.2.2.2 111) rfl (oz3 z288.1) (oz3 z288.2.2.1) (oz3 z290.2.2.1) (oz1278 fi_6915.2 z288.2.2.2) (oz1278 fi_7043.2 z290.2.2.2) (h5 := ks i a (ku q 111 (mi_cpy (q 109) (q 111) x2.toNatClampNeg x4.toNatClampNeg x5.toNatClampNeg)) r) (by rfl) ?_
                        first | refine ft_go mi_k117 1 131 [(7, .ref 110), (6, .ref 108), (0, .ref 0), (1, .int x1), (2, .int x2), (3, .int x3), (4, .int x4), (5, .int x5)] [.int x5] i a (ku q 111 (mi_cpy (q 109) (q 111) x2.toNatClampNeg x4.toNatClampNeg x5.toNatClampNeg)) r (by rfl) ?_ | refine ko_steps mi_in117 1 _ (131, [(7, .ref 110), (6, .ref 108), (0, .ref 0), (1, .int x1), (2, .int x2), (3, .int x3), (4, .int x4), (5, .int x5)], [.int x5], (0, 0), ks i a (ku q 111 (mi_cpy (q 109) (q 111) x2.toNatClampNeg x4.toNatClampNeg x5.toNatClampNeg)) r) (by rfl) ?_
                        exact ft_ret mi_k117 (by rfl) (hP x5 _ _ _ _ hJ291 trivial)
                      ·
                        subst eg289
                        have fi_7043 : ((0 : Int) ≤ (i 7043).toInt) ∧ ((i 7043).toInt ≤ 60) := hG.I.1 7043
                        have z292 : ¬ (((0 : Int) ≤ x5.toInt) ∧ (x5.toInt ≤ (i 7043).toInt) ∧ ((0 : Int) ≤ x4.toInt) ∧ ((x4.toInt + x5.toInt) ≤ (i 7043).toInt)) := hg289
                        first | refine ft_go mi_k117 2 110 [(7, .ref 110), (6, .ref 108), (0, .ref 0), (1, .int x1), (2, .int x2), (3, .int x3), (4, .int x4), (5, .int x5)] [.int (-13)] i a q r (by rfl) ?_ | refine ko_steps mi_in117 2 _ (110, [(7, .ref 110), (6, .ref 108), (0, .ref 0), (1, .int x1), (2, .int x2), (3, .int x3), (4, .int x4), (5, .int x5)], [.int (-13)], (0, 0), ks i a q r) (by rfl) ?_
                        exact ft_ret mi_k117 (by rfl) (hP (-13) _ _ _ _ hG trivial)
                    ·
                      subst eg287
                      have fi_6915 : ((0 : Int) ≤ (i 6915).toInt) ∧ ((i 6915).toInt ≤ 60) := hG.I.1 6915
                      have z293 : ¬ (((0 : Int) ≤ x5.toInt) ∧ (x5.toInt ≤ (i 6915).toInt) ∧ ((0 : Int) ≤ x2.toInt) ∧ ((x2.toInt + x5.toInt) ≤ (i 6915).toInt)) := hg287
                      first | refine ft_go mi_k117 2 110 [(7, .ref 110), (6, .ref 108), (0, .ref 0), (1, .int x1), (2, .int x2), (3, .int x3), (4, .int x4), (5, .int x5)] [.int (-13)] i a q r (by rfl) ?_ | refine ko_steps mi_in117 2 _ (110, [(7, .ref 110), (6, .ref 108), (0, .ref 0), (1, .int x1), (2, .int x2), (3, .int x3), (4, .int x4), (5, .int x5)], [.int (-13)], (0, 0), ks i a q r) (by rfl) ?_
                      exact ft_ret mi_k117 (by rfl) (hP (-13) _ _ _ _ hG trivial)
                  ·
                    have c294 : (i 6914).toInt ≠ (i 7042).toInt := kd_eqF c; clear c
                    first | refine ft_go mi_k117 1 84 [(7, .ref 110), (6, .ref 108), (0, .ref 0), (1, .int x1), (2, .int x2), (3, .int x3), (4, .int x4), (5, .int x5)] [.int (-12)] i a q r (by rfl) ?_ | refine ko_steps mi_in117 1 _ (84, [(7, .ref 110), (6, .ref 108), (0, .ref 0), (1, .int x1), (2, .int x2), (3, .int x3), (4, .int x4), (5, .int x5)], [.int (-12)], (0, 0), ks i a q r) (by rfl) ?_
                    exact ft_ret mi_k117 (by rfl) (hP (-12) _ _ _ _ hG trivial)
            ·
              have c295 : (i 7040).toInt = (0 : Int32).toInt := kd_neF c; clear c
              first | refine ft_go mi_k117 1 50 [(7, .ref 110), (6, .ref 108), (0, .ref 0), (1, .int x1), (2, .int x2), (3, .int x3), (4, .int x4), (5, .int x5)] [.int (-11)] i a q r (by rfl) ?_ | refine ko_steps mi_in117 1 _ (50, [(7, .ref 110), (6, .ref 108), (0, .ref 0), (1, .int x1), (2, .int x2), (3, .int x3), (4, .int x4), (5, .int x5)], [.int (-11)], (0, 0), ks i a q r) (by rfl) ?_
              exact ft_ret mi_k117 (by rfl) (hP (-11) _ _ _ _ hG trivial)
        by_cases w296 : x3.toInt = 4
        ·
          refine ko_eq (x1 := (29, [(6, .ref 108), (0, .ref 0), (1, .int x1), (2, .int x2), (3, .int x3), (4, .int x4), (5, .int x5)], [.int 4, .ref 97], (0, 0), ks i a q r)) (by rw [(kj_eq w296 (by decide) : x3 = 4)]) ?_
          have fi_6912 : ((0 : Int) ≤ (i 6912).toInt) ∧ ((i 6912).toInt ≤ 2) := hG.I.1 6912
          first | refine ft_go mi_k117 4 37 [(7, .ref 112), (6, .ref 108), (0, .ref 0), (1, .int x1), (2, .int x2), (3, .int x3), (4, .int x4), (5, .int x5)] [.int (i 6912)] i a q r (by rfl) ?_ | refine ko_steps mi_in117 4 _ (37, [(7, .ref 112), (6, .ref 108), (0, .ref 0), (1, .int x1), (2, .int x2), (3, .int x3), (4, .int x4), (5, .int x5)], [.int (i 6912)], (0, 0), ks i a q r) (by rfl) ?_
          refine ft_if mi_k117 ((i 6912) == 0) 48 40 [(7, .ref 112), (6, .ref 108), (0, .ref 0), (1, .int x1), (2, .int x2), (3, .int x3), (4, .int x4), (5, .int x5)] [] (by rfl) (fun c => ?_) (fun c => ?_)
          ·
            have c297 : (i 6912).toInt = (0 : Int32).toInt := kd_eq c; clear c
            first | refine ft_go mi_k117 1 50 [(7, .ref 112), (6, .ref 108), (0, .ref 0), (1, .int x1), (2, .int x2), (3, .int x3), (4, .int x4), (5, .int x5)] [.int (-11)] i a q r (by rfl) ?_ | refine ko_steps mi_in117 1 _ (50, [(7, .ref 112), (6, .ref 108), (0, .ref 0), (1, .int x1), (2, .int x2), (3, .int x3), (4, .int x4), (5, .int x5)], [.int (-11)], (0, 0), ks i a q r) (by rfl) ?_
            exact ft_ret mi_k117 (by rfl) (hP (-11) _ _ _ _ hG trivial)
          ·
            have c298 : (i 6912).toInt ≠ (0 : Int32).toInt := kd_eqF c; clear c
            have fi_7168 : ((0 : Int) ≤ (i 7168).toInt) ∧ ((i 7168).toInt ≤ 2) := hG.I.1 7168
            first | refine ft_go mi_k117 2 45 [(7, .ref 112), (6, .ref 108), (0, .ref 0), (1, .int x1), (2, .int x2), (3, .int x3), (4, .int x4), (5, .int x5)] [.int (i 7168)] i a q r (by rfl) ?_ | refine ko_steps mi_in117 2 _ (45, [(7, .ref 112), (6, .ref 108), (0, .ref 0), (1, .int x1), (2, .int x2), (3, .int x3), (4, .int x4), (5, .int x5)], [.int (i 7168)], (0, 0), ks i a q r) (by rfl) ?_
            refine ft_if mi_k117 ((i 7168) != 0) 51 48 [(7, .ref 112), (6, .ref 108), (0, .ref 0), (1, .int x1), (2, .int x2), (3, .int x3), (4, .int x4), (5, .int x5)] [] (by rfl) (fun c => ?_) (fun c => ?_)
            ·
              have c299 : (i 7168).toInt ≠ (0 : Int32).toInt := kd_ne c; clear c
              first | refine ft_go mi_k117 3 57 [(7, .ref 112), (6, .ref 108), (0, .ref 0), (1, .int x1), (2, .int x2), (3, .int x3), (4, .int x4), (5, .int x5)] [.int 2, .int (i 6912)] i a q r (by rfl) ?_ | refine ko_steps mi_in117 3 _ (57, [(7, .ref 112), (6, .ref 108), (0, .ref 0), (1, .int x1), (2, .int x2), (3, .int x3), (4, .int x4), (5, .int x5)], [.int 2, .int (i 6912)], (0, 0), ks i a q r) (by rfl) ?_
              refine ft_if mi_k117 ((i 6912) != 2) 82 60 [(7, .ref 112), (6, .ref 108), (0, .ref 0), (1, .int x1), (2, .int x2), (3, .int x3), (4, .int x4), (5, .int x5)] [] (by rfl) (fun c => ?_) (fun c => ?_)
              ·
                have c300 : (i 6912).toInt ≠ (2 : Int32).toInt := kd_ne c; clear c
                first | refine ft_go mi_k117 1 84 [(7, .ref 112), (6, .ref 108), (0, .ref 0), (1, .int x1), (2, .int x2), (3, .int x3), (4, .int x4), (5, .int x5)] [.int (-12)] i a q r (by rfl) ?_ | refine ko_steps mi_in117 1 _ (84, [(7, .ref 112), (6, .ref 108), (0, .ref 0), (1, .int x1), (2, .int x2), (3, .int x3), (4, .int x4), (5, .int x5)], [.int (-12)], (0, 0), ks i a q r) (by rfl) ?_
                exact ft_ret mi_k117 (by rfl) (hP (-12) _ _ _ _ hG trivial)
              ·
                have c301 : (i 6912).toInt = (2 : Int32).toInt := kd_neF c; clear c
                first | refine ft_go mi_k117 3 66 [(7, .ref 112), (6, .ref 108), (0, .ref 0), (1, .int x1), (2, .int x2), (3, .int x3), (4, .int x4), (5, .int x5)] [.int 2, .int (i 7168)] i a q r (by rfl) ?_ | refine ko_steps mi_in117 3 _ (66, [(7, .ref 112), (6, .ref 108), (0, .ref 0), (1, .int x1), (2, .int x2), (3, .int x3), (4, .int x4), (5, .int x5)], [.int 2, .int (i 7168)], (0, 0), ks i a q r) (by rfl) ?_
                refine ft_if mi_k117 ((i 7168) != 2) 82 69 [(7, .ref 112), (6, .ref 108), (0, .ref 0), (1, .int x1), (2, .int x2), (3, .int x3), (4, .int x4), (5, .int x5)] [] (by rfl) (fun c => ?_) (fun c => ?_)
                ·
                  have c302 : (i 7168).toInt ≠ (2 : Int32).toInt := kd_ne c; clear c
                  first | refine ft_go mi_k117 1 84 [(7, .ref 112), (6, .ref 108), (0, .ref 0), (1, .int x1), (2, .int x2), (3, .int x3), (4, .int x4), (5, .int x5)] [.int (-12)] i a q r (by rfl) ?_ | refine ko_steps mi_in117 1 _ (84, [(7, .ref 112), (6, .ref 108), (0, .ref 0), (1, .int x1), (2, .int x2), (3, .int x3), (4, .int x4), (5, .int x5)], [.int (-12)], (0, 0), ks i a q r) (by rfl) ?_
                  exact ft_ret mi_k117 (by rfl) (hP (-12) _ _ _ _ hG trivial)
                ·
                  have c303 : (i 7168).toInt = (2 : Int32).toInt := kd_neF c; clear c
                  have fi_6914 : ((0 : Int) ≤ (i 6914).toInt) ∧ ((i 6914).toInt ≤ 4) := hG.I.1 6914
                  have fi_7170 : ((0 : Int) ≤ (i 7170).toInt) ∧ ((i 7170).toInt ≤ 4) := hG.I.1 7170
                  first | refine ft_go mi_k117 4 79 [(7, .ref 112), (6, .ref 108), (0, .ref 0), (1, .int x1), (2, .int x2), (3, .int x3), (4, .int x4), (5, .int x5)] [.int (i 7170), .int (i 6914)] i a q r (by rfl) ?_ | refine ko_steps mi_in117 4 _ (79, [(7, .ref 112), (6, .ref 108), (0, .ref 0), (1, .int x1), (2, .int x2), (3, .int x3), (4, .int x4), (5, .int x5)], [.int (i 7170), .int (i 6914)], (0, 0), ks i a q r) (by rfl) ?_
                  refine ft_if mi_k117 ((i 6914) == (i 7170)) 85 82 [(7, .ref 112), (6, .ref 108), (0, .ref 0), (1, .int x1), (2, .int x2), (3, .int x3), (4, .int x4), (5, .int x5)] [] (by rfl) (fun c => ?_) (fun c => ?_)
                  ·
                    have c304 : (i 6914).toInt = (i 7170).toInt := kd_eq c; clear c
                    first | refine ft_go mi_k117 3 90 [(7, .ref 112), (6, .ref 108), (0, .ref 0), (1, .int x1), (2, .int x2), (3, .int x3), (4, .int x4), (5, .int x5)] [.int x5, .int x2, .ref 108] i a q r (by rfl) ?_ | refine ko_steps mi_in117 3 _ (90, [(7, .ref 112), (6, .ref 108), (0, .ref 0), (1, .int x1), (2, .int x2), (3, .int x3), (4, .int x4), (5, .int x5)], [.int x5, .int x2, .ref 108], (0, 0), ks i a q r) (by rfl) ?_
                    refine ko_callPI mi_k117.1 (pc := 90) (ls := [(7, .ref 112), (6, .ref 108), (0, .ref 0), (1, .int x1), (2, .int x2), (3, .int x3), (4, .int x4), (5, .int x5)]) (st := [.int x5, .int x2, .ref 108]) (h := ks i a q r) (i := (.invokevirtual 324, 3, 37, 0, 9, 0, 316)) (mi_k117.2 _ _ (by rfl)) (ft_invS mi_pq37 (by rfl)) (cy := mi_c37) mi_pq37 rfl (kc37_108 hG.I hG.R x2 x5) (by decide) ?_
                    intro vg305 hg305
                    rcases hg305 with ⟨eg305, hg305⟩ | ⟨eg305, hg305⟩
                    ·
                      subst eg305
                      have fi_6915 : ((0 : Int) ≤ (i 6915).toInt) ∧ ((i 6915).toInt ≤ 60) := hG.I.1 6915
                      have z306 : ((0 : Int) ≤ x5.toInt) ∧ (x5.toInt ≤ (i 6915).toInt) ∧ ((0 : Int) ≤ x2.toInt) ∧ ((x2.toInt + x5.toInt) ≤ (i 6915).toInt) := hg305
                      first | refine ft_go mi_k117 4 102 [(7, .ref 112), (6, .ref 108), (0, .ref 0), (1, .int x1), (2, .int x2), (3, .int x3), (4, .int x4), (5, .int x5)] [.int x5, .int x4, .ref 112] i a q r (by rfl) ?_ | refine ko_steps mi_in117 4 _ (102, [(7, .ref 112), (6, .ref 108), (0, .ref 0), (1, .int x1), (2, .int x2), (3, .int x3), (4, .int x4), (5, .int x5)], [.int x5, .int x4, .ref 112], (0, 0), ks i a q r) (by rfl) ?_
                      refine ko_callPI mi_k117.1 (pc := 102) (ls := [(7, .ref 112), (6, .ref 108), (0, .ref 0), (1, .int x1), (2, .int x2), (3, .int x3), (4, .int x4), (5, .int x5)]) (st := [.int x5, .int x4, .ref 112]) (h := ks i a q r) (i := (.invokevirtual 324, 3, 37, 0, 9, 0, 316)) (mi_k117.2 _ _ (by rfl)) (ft_invS mi_pq37 (by rfl)) (cy := mi_c37) mi_pq37 rfl (kc37_112 hG.I hG.R x4 x5) (by decide) ?_
                      intro vg307 hg307
                      rcases hg307 with ⟨eg307, hg307⟩ | ⟨eg307, hg307⟩
                      ·
                        subst eg307
                        have fi_7171 : ((0 : Int) ≤ (i 7171).toInt) ∧ ((i 7171).toInt ≤ 60) := hG.I.1 7171
                        have z308 : ((0 : Int) ≤ x5.toInt) ∧ (x5.toInt ≤ (i 7171).toInt) ∧ ((0 : Int) ≤ x4.toInt) ∧ ((x4.toInt + x5.toInt) ≤ (i 7171).toInt) := hg307
                        first | refine ft_go mi_k117 8 126 [(7, .ref 112), (6, .ref 108), (0, .ref 0), (1, .int x1), (2, .int x2), (3, .int x3), (4, .int x4), (5, .int x5)] [.int x5, .int x4, .ref 113, .int x2, .ref 109] i a q r (by rfl) ?_ | refine ko_steps mi_in117 8 _ (126, [(7, .ref 112), (6, .ref 108), (0, .ref 0), (1, .int x1), (2, .int x2), (3, .int x3), (4, .int x4), (5, .int x5)], [.int x5, .int x4, .ref 113, .int x2, .ref 109], (0, 0), ks i a q r) (by rfl) ?_
                        have hJ309 := kG_q hG 113 rfl (z := mi_cpy (q 109) (q 113) x2.toNatClampNeg x4.toNatClampNeg x5.toNatClampNeg) (kcpy_len2 (n := 60) (c := 60) (m := 60) (b := 60) (sp := x2) (dp := x4) (n1 := x5) (hG.I.2.2.2 109) rfl (hG.I.2.2.2 113) rfl (oz3 z306.1) (oz3 z306.2.2.1) (oz3 z308.2.2.1) (oz1278 fi_6915.2 z306.2.2.2) (oz1278 fi_7171.2 z308.2.2.2))
                        refine ko_copyL2 mi_k117.1 (l := q 109) (g := q 113) (n := 60) (c := 60) (m := 60) (b := 60) (mi_k117.2 _ _ (by rfl)) (by rfl) (by rfl) (by rfl) (by rfl) (by rfl) (hG.I.2.2.2 109) rfl (hG.I.2.2.2 113) rfl (oz3 z306.1) (oz3 z306.2.2.1) (oz3 z308.2.2.1) (oz1278 fi_6915.2 z306.2.2.2) (oz1278 fi_7171.2 z308.2.2.2) (h5 := ks i a (ku q 113 (mi_cpy (q 109) (q 113) x2.toNatClampNeg x4.toNatClampNeg x5.toNatClampNeg)) r) (by rfl) ?_
                        first | refine ft_go mi_k117 1 131 [(7, .ref 112), (6, .ref 108), (0, .ref 0), (1, .int x1), (2, .int x2), (3, .int x3), (4, .int x4), (5, .int x5)] [.int x5] i a (ku q 113 (mi_cpy (q 109) (q 113) x2.toNatClampNeg x4.toNatClampNeg x5.toNatClampNeg)) r (by rfl) ?_ | refine ko_steps mi_in117 1 _ (131, [(7, .ref 112), (6, .ref 108), (0, .ref 0), (1, .int x1), (2, .int x2), (3, .int x3), (4, .int x4), (5, .int x5)], [.int x5], (0, 0), ks i a (ku q 113 (mi_cpy (q 109) (q 113) x2.toNatClampNeg x4.toNatClampNeg x5.toNatClampNeg)) r) (by rfl) ?_
                        exact ft_ret mi_k117 (by rfl) (hP x5 _ _ _ _ hJ309 trivial)
                      ·
                        subst eg307
                        have fi_7171 : ((0 : Int) ≤ (i 7171).toInt) ∧ ((i 7171).toInt ≤ 60) := hG.I.1 7171
                        have z310 : ¬ (((0 : Int) ≤ x5.toInt) ∧ (x5.toInt ≤ (i 7171).toInt) ∧ ((0 : Int) ≤ x4.toInt) ∧ ((x4.toInt + x5.toInt) ≤ (i 7171).toInt)) := hg307
                        first | refine ft_go mi_k117 2 110 [(7, .ref 112), (6, .ref 108), (0, .ref 0), (1, .int x1), (2, .int x2), (3, .int x3), (4, .int x4), (5, .int x5)] [.int (-13)] i a q r (by rfl) ?_ | refine ko_steps mi_in117 2 _ (110, [(7, .ref 112), (6, .ref 108), (0, .ref 0), (1, .int x1), (2, .int x2), (3, .int x3), (4, .int x4), (5, .int x5)], [.int (-13)], (0, 0), ks i a q r) (by rfl) ?_
                        exact ft_ret mi_k117 (by rfl) (hP (-13) _ _ _ _ hG trivial)
                    ·
                      subst eg305
                      have fi_6915 : ((0 : Int) ≤ (i 6915).toInt) ∧ ((i 6915).toInt ≤ 60) := hG.I.1 6915
                      have z311 : ¬ (((0 : Int) ≤ x5.toInt) ∧ (x5.toInt ≤ (i 6915).toInt) ∧ ((0 : Int) ≤ x2.toInt) ∧ ((x2.toInt + x5.toInt) ≤ (i 6915).toInt)) := hg305
                      first | refine ft_go mi_k117 2 110 [(7, .ref 112), (6, .ref 108), (0, .ref 0), (1, .int x1), (2, .int x2), (3, .int x3), (4, .int x4), (5, .int x5)] [.int (-13)] i a q r (by rfl) ?_ | refine ko_steps mi_in117 2 _ (110, [(7, .ref 112), (6, .ref 108), (0, .ref 0), (1, .int x1), (2, .int x2), (3, .int x3), (4, .int x4), (5, .int x5)], [.int (-13)], (0, 0), ks i a q r) (by rfl) ?_
                      exact ft_ret mi_k117 (by rfl) (hP (-13) _ _ _ _ hG trivial)
                  ·
                    have c312 : (i 6914).toInt ≠ (i 7170).toInt := kd_eqF c; clear c
                    first | refine ft_go mi_k117 1 84 [(7, .ref 112), (6, .ref 108), (0, .ref 0), (1, .int x1), (2, .int x2), (3, .int x3), (4, .int x4), (5, .int x5)] [.int (-12)] i a q r (by rfl) ?_ | refine ko_steps mi_in117 1 _ (84, [(7, .ref 112), (6, .ref 108), (0, .ref 0), (1, .int x1), (2, .int x2), (3, .int x3), (4, .int x4), (5, .int x5)], [.int (-12)], (0, 0), ks i a q r) (by rfl) ?_
                    exact ft_ret mi_k117 (by rfl) (hP (-12) _ _ _ _ hG trivial)
            ·
              have c313 : (i 7168).toInt = (0 : Int32).toInt := kd_neF c; clear c
              first | refine ft_go mi_k117 1 50 [(7, .ref 112), (6, .ref 108), (0, .ref 0), (1, .int x1), (2, .int x2), (3, .int x3), (4, .int x4), (5, .int x5)] [.int (-11)] i a q r (by rfl) ?_ | refine ko_steps mi_in117 1 _ (50, [(7, .ref 112), (6, .ref 108), (0, .ref 0), (1, .int x1), (2, .int x2), (3, .int x3), (4, .int x4), (5, .int x5)], [.int (-11)], (0, 0), ks i a q r) (by rfl) ?_
              exact ft_ret mi_k117 (by rfl) (hP (-11) _ _ _ _ hG trivial)
        by_cases w314 : x3.toInt = 5
        ·
          refine ko_eq (x1 := (29, [(6, .ref 108), (0, .ref 0), (1, .int x1), (2, .int x2), (3, .int x3), (4, .int x4), (5, .int x5)], [.int 5, .ref 97], (0, 0), ks i a q r)) (by rw [(kj_eq w314 (by decide) : x3 = 5)]) ?_
          have fi_6912 : ((0 : Int) ≤ (i 6912).toInt) ∧ ((i 6912).toInt ≤ 2) := hG.I.1 6912
          first | refine ft_go mi_k117 4 37 [(7, .ref 114), (6, .ref 108), (0, .ref 0), (1, .int x1), (2, .int x2), (3, .int x3), (4, .int x4), (5, .int x5)] [.int (i 6912)] i a q r (by rfl) ?_ | refine ko_steps mi_in117 4 _ (37, [(7, .ref 114), (6, .ref 108), (0, .ref 0), (1, .int x1), (2, .int x2), (3, .int x3), (4, .int x4), (5, .int x5)], [.int (i 6912)], (0, 0), ks i a q r) (by rfl) ?_
          refine ft_if mi_k117 ((i 6912) == 0) 48 40 [(7, .ref 114), (6, .ref 108), (0, .ref 0), (1, .int x1), (2, .int x2), (3, .int x3), (4, .int x4), (5, .int x5)] [] (by rfl) (fun c => ?_) (fun c => ?_)
          ·
            have c315 : (i 6912).toInt = (0 : Int32).toInt := kd_eq c; clear c
            first | refine ft_go mi_k117 1 50 [(7, .ref 114), (6, .ref 108), (0, .ref 0), (1, .int x1), (2, .int x2), (3, .int x3), (4, .int x4), (5, .int x5)] [.int (-11)] i a q r (by rfl) ?_ | refine ko_steps mi_in117 1 _ (50, [(7, .ref 114), (6, .ref 108), (0, .ref 0), (1, .int x1), (2, .int x2), (3, .int x3), (4, .int x4), (5, .int x5)], [.int (-11)], (0, 0), ks i a q r) (by rfl) ?_
            exact ft_ret mi_k117 (by rfl) (hP (-11) _ _ _ _ hG trivial)
          ·
            have c316 : (i 6912).toInt ≠ (0 : Int32).toInt := kd_eqF c; clear c
            have fi_7296 : ((0 : Int) ≤ (i 7296).toInt) ∧ ((i 7296).toInt ≤ 2) := hG.I.1 7296
            first | refine ft_go mi_k117 2 45 [(7, .ref 114), (6, .ref 108), (0, .ref 0), (1, .int x1), (2, .int x2), (3, .int x3), (4, .int x4), (5, .int x5)] [.int (i 7296)] i a q r (by rfl) ?_ | refine ko_steps mi_in117 2 _ (45, [(7, .ref 114), (6, .ref 108), (0, .ref 0), (1, .int x1), (2, .int x2), (3, .int x3), (4, .int x4), (5, .int x5)], [.int (i 7296)], (0, 0), ks i a q r) (by rfl) ?_
            refine ft_if mi_k117 ((i 7296) != 0) 51 48 [(7, .ref 114), (6, .ref 108), (0, .ref 0), (1, .int x1), (2, .int x2), (3, .int x3), (4, .int x4), (5, .int x5)] [] (by rfl) (fun c => ?_) (fun c => ?_)
            ·
              have c317 : (i 7296).toInt ≠ (0 : Int32).toInt := kd_ne c; clear c
              first | refine ft_go mi_k117 3 57 [(7, .ref 114), (6, .ref 108), (0, .ref 0), (1, .int x1), (2, .int x2), (3, .int x3), (4, .int x4), (5, .int x5)] [.int 2, .int (i 6912)] i a q r (by rfl) ?_ | refine ko_steps mi_in117 3 _ (57, [(7, .ref 114), (6, .ref 108), (0, .ref 0), (1, .int x1), (2, .int x2), (3, .int x3), (4, .int x4), (5, .int x5)], [.int 2, .int (i 6912)], (0, 0), ks i a q r) (by rfl) ?_
              refine ft_if mi_k117 ((i 6912) != 2) 82 60 [(7, .ref 114), (6, .ref 108), (0, .ref 0), (1, .int x1), (2, .int x2), (3, .int x3), (4, .int x4), (5, .int x5)] [] (by rfl) (fun c => ?_) (fun c => ?_)
              ·
                have c318 : (i 6912).toInt ≠ (2 : Int32).toInt := kd_ne c; clear c
                first | refine ft_go mi_k117 1 84 [(7, .ref 114), (6, .ref 108), (0, .ref 0), (1, .int x1), (2, .int x2), (3, .int x3), (4, .int x4), (5, .int x5)] [.int (-12)] i a q r (by rfl) ?_ | refine ko_steps mi_in117 1 _ (84, [(7, .ref 114), (6, .ref 108), (0, .ref 0), (1, .int x1), (2, .int x2), (3, .int x3), (4, .int x4), (5, .int x5)], [.int (-12)], (0, 0), ks i a q r) (by rfl) ?_
                exact ft_ret mi_k117 (by rfl) (hP (-12) _ _ _ _ hG trivial)
              ·
                have c319 : (i 6912).toInt = (2 : Int32).toInt := kd_neF c; clear c
                first | refine ft_go mi_k117 3 66 [(7, .ref 114), (6, .ref 108), (0, .ref 0), (1, .int x1), (2, .int x2), (3, .int x3), (4, .int x4), (5, .int x5)] [.int 2, .int (i 7296)] i a q r (by rfl) ?_ | refine ko_steps mi_in117 3 _ (66, [(7, .ref 114), (6, .ref 108), (0, .ref 0), (1, .int x1), (2, .int x2), (3, .int x3), (4, .int x4), (5, .int x5)], [.int 2, .int (i 7296)], (0, 0), ks i a q r) (by rfl) ?_
                refine ft_if mi_k117 ((i 7296) != 2) 82 69 [(7, .ref 114), (6, .ref 108), (0, .ref 0), (1, .int x1), (2, .int x2), (3, .int x3), (4, .int x4), (5, .int x5)] [] (by rfl) (fun c => ?_) (fun c => ?_)
                ·
                  have c320 : (i 7296).toInt ≠ (2 : Int32).toInt := kd_ne c; clear c
                  first | refine ft_go mi_k117 1 84 [(7, .ref 114), (6, .ref 108), (0, .ref 0), (1, .int x1), (2, .int x2), (3, .int x3), (4, .int x4), (5, .int x5)] [.int (-12)] i a q r (by rfl) ?_ | refine ko_steps mi_in117 1 _ (84, [(7, .ref 114), (6, .ref 108), (0, .ref 0), (1, .int x1), (2, .int x2), (3, .int x3), (4, .int x4), (5, .int x5)], [.int (-12)], (0, 0), ks i a q r) (by rfl) ?_
                  exact ft_ret mi_k117 (by rfl) (hP (-12) _ _ _ _ hG trivial)
                ·
                  have c321 : (i 7296).toInt = (2 : Int32).toInt := kd_neF c; clear c
                  have fi_6914 : ((0 : Int) ≤ (i 6914).toInt) ∧ ((i 6914).toInt ≤ 4) := hG.I.1 6914
                  have fi_7298 : ((0 : Int) ≤ (i 7298).toInt) ∧ ((i 7298).toInt ≤ 4) := hG.I.1 7298
                  first | refine ft_go mi_k117 4 79 [(7, .ref 114), (6, .ref 108), (0, .ref 0), (1, .int x1), (2, .int x2), (3, .int x3), (4, .int x4), (5, .int x5)] [.int (i 7298), .int (i 6914)] i a q r (by rfl) ?_ | refine ko_steps mi_in117 4 _ (79, [(7, .ref 114), (6, .ref 108), (0, .ref 0), (1, .int x1), (2, .int x2), (3, .int x3), (4, .int x4), (5, .int x5)], [.int (i 7298), .int (i 6914)], (0, 0), ks i a q r) (by rfl) ?_
                  refine ft_if mi_k117 ((i 6914) == (i 7298)) 85 82 [(7, .ref 114), (6, .ref 108), (0, .ref 0), (1, .int x1), (2, .int x2), (3, .int x3), (4, .int x4), (5, .int x5)] [] (by rfl) (fun c => ?_) (fun c => ?_)
                  ·
                    have c322 : (i 6914).toInt = (i 7298).toInt := kd_eq c; clear c
                    first | refine ft_go mi_k117 3 90 [(7, .ref 114), (6, .ref 108), (0, .ref 0), (1, .int x1), (2, .int x2), (3, .int x3), (4, .int x4), (5, .int x5)] [.int x5, .int x2, .ref 108] i a q r (by rfl) ?_ | refine ko_steps mi_in117 3 _ (90, [(7, .ref 114), (6, .ref 108), (0, .ref 0), (1, .int x1), (2, .int x2), (3, .int x3), (4, .int x4), (5, .int x5)], [.int x5, .int x2, .ref 108], (0, 0), ks i a q r) (by rfl) ?_
                    refine ko_callPI mi_k117.1 (pc := 90) (ls := [(7, .ref 114), (6, .ref 108), (0, .ref 0), (1, .int x1), (2, .int x2), (3, .int x3), (4, .int x4), (5, .int x5)]) (st := [.int x5, .int x2, .ref 108]) (h := ks i a q r) (i := (.invokevirtual 324, 3, 37, 0, 9, 0, 316)) (mi_k117.2 _ _ (by rfl)) (ft_invS mi_pq37 (by rfl)) (cy := mi_c37) mi_pq37 rfl (kc37_108 hG.I hG.R x2 x5) (by decide) ?_
                    intro vg323 hg323
                    rcases hg323 with ⟨eg323, hg323⟩ | ⟨eg323, hg323⟩
                    ·
                      subst eg323
                      have fi_6915 : ((0 : Int) ≤ (i 6915).toInt) ∧ ((i 6915).toInt ≤ 60) := hG.I.1 6915
                      have z324 : ((0 : Int) ≤ x5.toInt) ∧ (x5.toInt ≤ (i 6915).toInt) ∧ ((0 : Int) ≤ x2.toInt) ∧ ((x2.toInt + x5.toInt) ≤ (i 6915).toInt) := hg323
                      first | refine ft_go mi_k117 4 102 [(7, .ref 114), (6, .ref 108), (0, .ref 0), (1, .int x1), (2, .int x2), (3, .int x3), (4, .int x4), (5, .int x5)] [.int x5, .int x4, .ref 114] i a q r (by rfl) ?_ | refine ko_steps mi_in117 4 _ (102, [(7, .ref 114), (6, .ref 108), (0, .ref 0), (1, .int x1), (2, .int x2), (3, .int x3), (4, .int x4), (5, .int x5)], [.int x5, .int x4, .ref 114], (0, 0), ks i a q r) (by rfl) ?_
                      refine ko_callPI mi_k117.1 (pc := 102) (ls := [(7, .ref 114), (6, .ref 108), (0, .ref 0), (1, .int x1), (2, .int x2), (3, .int x3), (4, .int x4), (5, .int x5)]) (st := [.int x5, .int x4, .ref 114]) (h := ks i a q r) (i := (.invokevirtual 324, 3, 37, 0, 9, 0, 316)) (mi_k117.2 _ _ (by rfl)) (ft_invS mi_pq37 (by rfl)) (cy := mi_c37) mi_pq37 rfl (kc37_114 hG.I hG.R x4 x5) (by decide) ?_
                      intro vg325 hg325
                      rcases hg325 with ⟨eg325, hg325⟩ | ⟨eg325, hg325⟩
                      ·
                        subst eg325
                        have fi_7299 : ((0 : Int) ≤ (i 7299).toInt) ∧ ((i 7299).toInt ≤ 60) := hG.I.1 7299
                        have z326 : ((0 : Int) ≤ x5.toInt) ∧ (x5.toInt ≤ (i 7299).toInt) ∧ ((0 : Int) ≤ x4.toInt) ∧ ((x4.toInt + x5.toInt) ≤ (i 7299).toInt) := hg325
                        first | refine ft_go mi_k117 8 126 [(7, .ref 114), (6, .ref 108), (0, .ref 0), (1, .int x1), (2, .int x2), (3, .int x3), (4, .int x4), (5, .int x5)] [.int x5, .int x4, .ref 115, .int x2, .ref 109] i a q r (by rfl) ?_ | refine ko_steps mi_in117 8 _ (126, [(7, .ref 114), (6, .ref 108), (0, .ref 0), (1, .int x1), (2, .int x2), (3, .int x3), (4, .int x4), (5, .int x5)], [.int x5, .int x4, .ref 115, .int x2, .ref 109], (0, 0), ks i a q r) (by rfl) ?_
                        have hJ327 := kG_q hG 115 rfl (z := mi_cpy (q 109) (q 115) x2.toNatClampNeg x4.toNatClampNeg x5.toNatClampNeg) (kcpy_len2 (n := 60) (c := 60) (m := 60) (b := 60) (sp := x2) (dp := x4) (n1 := x5) (hG.I.2.2.2 109) rfl (hG.I.2.2.2 115) rfl (oz3 z324.1) (oz3 z324.2.2.1) (oz3 z326.2.2.1) (oz1278 fi_6915.2 z324.2.2.2) (oz1278 fi_7299.2 z326.2.2.2))
                        refine ko_copyL2 mi_k117.1 (l := q 109) (g := q 115) (n := 60) (c := 60) (m := 60) (b := 60) (mi_k117.2 _ _ (by rfl)) (by rfl) (by rfl) (by rfl) (by rfl) (by rfl) (hG.I.2.2.2 109) rfl (hG.I.2.2.2 115) rfl (oz3 z324.1) (oz3 z324.2.2.1) (oz3 z326.2.2.1) (oz1278 fi_6915.2 z324.2.2.2) (oz1278 fi_7299.2 z326.2.2.2) (h5 := ks i a (ku q 115 (mi_cpy (q 109) (q 115) x2.toNatClampNeg x4.toNatClampNeg x5.toNatClampNeg)) r) (by rfl) ?_
                        first | refine ft_go mi_k117 1 131 [(7, .ref 114), (6, .ref 108), (0, .ref 0), (1, .int x1), (2, .int x2), (3, .int x3), (4, .int x4), (5, .int x5)] [.int x5] i a (ku q 115 (mi_cpy (q 109) (q 115) x2.toNatClampNeg x4.toNatClampNeg x5.toNatClampNeg)) r (by rfl) ?_ | refine ko_steps mi_in117 1 _ (131, [(7, .ref 114), (6, .ref 108), (0, .ref 0), (1, .int x1), (2, .int x2), (3, .int x3), (4, .int x4), (5, .int x5)], [.int x5], (0, 0), ks i a (ku q 115 (mi_cpy (q 109) (q 115) x2.toNatClampNeg x4.toNatClampNeg x5.toNatClampNeg)) r) (by rfl) ?_
                        exact ft_ret mi_k117 (by rfl) (hP x5 _ _ _ _ hJ327 trivial)
                      ·
                        subst eg325
                        have fi_7299 : ((0 : Int) ≤ (i 7299).toInt) ∧ ((i 7299).toInt ≤ 60) := hG.I.1 7299
                        have z328 : ¬ (((0 : Int) ≤ x5.toInt) ∧ (x5.toInt ≤ (i 7299).toInt) ∧ ((0 : Int) ≤ x4.toInt) ∧ ((x4.toInt + x5.toInt) ≤ (i 7299).toInt)) := hg325
                        first | refine ft_go mi_k117 2 110 [(7, .ref 114), (6, .ref 108), (0, .ref 0), (1, .int x1), (2, .int x2), (3, .int x3), (4, .int x4), (5, .int x5)] [.int (-13)] i a q r (by rfl) ?_ | refine ko_steps mi_in117 2 _ (110, [(7, .ref 114), (6, .ref 108), (0, .ref 0), (1, .int x1), (2, .int x2), (3, .int x3), (4, .int x4), (5, .int x5)], [.int (-13)], (0, 0), ks i a q r) (by rfl) ?_
                        exact ft_ret mi_k117 (by rfl) (hP (-13) _ _ _ _ hG trivial)
                    ·
                      subst eg323
                      have fi_6915 : ((0 : Int) ≤ (i 6915).toInt) ∧ ((i 6915).toInt ≤ 60) := hG.I.1 6915
                      have z329 : ¬ (((0 : Int) ≤ x5.toInt) ∧ (x5.toInt ≤ (i 6915).toInt) ∧ ((0 : Int) ≤ x2.toInt) ∧ ((x2.toInt + x5.toInt) ≤ (i 6915).toInt)) := hg323
                      first | refine ft_go mi_k117 2 110 [(7, .ref 114), (6, .ref 108), (0, .ref 0), (1, .int x1), (2, .int x2), (3, .int x3), (4, .int x4), (5, .int x5)] [.int (-13)] i a q r (by rfl) ?_ | refine ko_steps mi_in117 2 _ (110, [(7, .ref 114), (6, .ref 108), (0, .ref 0), (1, .int x1), (2, .int x2), (3, .int x3), (4, .int x4), (5, .int x5)], [.int (-13)], (0, 0), ks i a q r) (by rfl) ?_
                      exact ft_ret mi_k117 (by rfl) (hP (-13) _ _ _ _ hG trivial)
                  ·
                    have c330 : (i 6914).toInt ≠ (i 7298).toInt := kd_eqF c; clear c
                    first | refine ft_go mi_k117 1 84 [(7, .ref 114), (6, .ref 108), (0, .ref 0), (1, .int x1), (2, .int x2), (3, .int x3), (4, .int x4), (5, .int x5)] [.int (-12)] i a q r (by rfl) ?_ | refine ko_steps mi_in117 1 _ (84, [(7, .ref 114), (6, .ref 108), (0, .ref 0), (1, .int x1), (2, .int x2), (3, .int x3), (4, .int x4), (5, .int x5)], [.int (-12)], (0, 0), ks i a q r) (by rfl) ?_
                    exact ft_ret mi_k117 (by rfl) (hP (-12) _ _ _ _ hG trivial)
            ·
              have c331 : (i 7296).toInt = (0 : Int32).toInt := kd_neF c; clear c
              first | refine ft_go mi_k117 1 50 [(7, .ref 114), (6, .ref 108), (0, .ref 0), (1, .int x1), (2, .int x2), (3, .int x3), (4, .int x4), (5, .int x5)] [.int (-11)] i a q r (by rfl) ?_ | refine ko_steps mi_in117 1 _ (50, [(7, .ref 114), (6, .ref 108), (0, .ref 0), (1, .int x1), (2, .int x2), (3, .int x3), (4, .int x4), (5, .int x5)], [.int (-11)], (0, 0), ks i a q r) (by rfl) ?_
              exact ft_ret mi_k117 (by rfl) (hP (-11) _ _ _ _ hG trivial)
        exact (oz1245 w224 w242 w260 w278 w296 w314 z4.1 z4.2).elim
      by_cases w332 : x1.toInt = 3
      ·
        refine ko_eq (x1 := (21, [(0, .ref 0), (1, .int x1), (2, .int x2), (3, .int x3), (4, .int x4), (5, .int x5)], [.int 3, .ref 97], (0, 0), ks i a q r)) (by rw [(kj_eq w332 (by decide) : x1 = 3)]) ?_
        first | refine ft_go mi_k117 5 29 [(6, .ref 110), (0, .ref 0), (1, .int x1), (2, .int x2), (3, .int x3), (4, .int x4), (5, .int x5)] [.int x3, .ref 97] i a q r (by rfl) ?_ | refine ko_steps mi_in117 5 _ (29, [(6, .ref 110), (0, .ref 0), (1, .int x1), (2, .int x2), (3, .int x3), (4, .int x4), (5, .int x5)], [.int x3, .ref 97], (0, 0), ks i a q r) (by rfl) ?_
        by_cases w333 : x3.toInt = 0
        ·
          refine ko_eq (x1 := (29, [(6, .ref 110), (0, .ref 0), (1, .int x1), (2, .int x2), (3, .int x3), (4, .int x4), (5, .int x5)], [.int 0, .ref 97], (0, 0), ks i a q r)) (by rw [(kj_eq w333 (by decide) : x3 = 0)]) ?_
          have fi_7040 : ((0 : Int) ≤ (i 7040).toInt) ∧ ((i 7040).toInt ≤ 2) := hG.I.1 7040
          first | refine ft_go mi_k117 4 37 [(7, .ref 104), (6, .ref 110), (0, .ref 0), (1, .int x1), (2, .int x2), (3, .int x3), (4, .int x4), (5, .int x5)] [.int (i 7040)] i a q r (by rfl) ?_ | refine ko_steps mi_in117 4 _ (37, [(7, .ref 104), (6, .ref 110), (0, .ref 0), (1, .int x1), (2, .int x2), (3, .int x3), (4, .int x4), (5, .int x5)], [.int (i 7040)], (0, 0), ks i a q r) (by rfl) ?_
          refine ft_if mi_k117 ((i 7040) == 0) 48 40 [(7, .ref 104), (6, .ref 110), (0, .ref 0), (1, .int x1), (2, .int x2), (3, .int x3), (4, .int x4), (5, .int x5)] [] (by rfl) (fun c => ?_) (fun c => ?_)
          ·
            have c334 : (i 7040).toInt = (0 : Int32).toInt := kd_eq c; clear c
            first | refine ft_go mi_k117 1 50 [(7, .ref 104), (6, .ref 110), (0, .ref 0), (1, .int x1), (2, .int x2), (3, .int x3), (4, .int x4), (5, .int x5)] [.int (-11)] i a q r (by rfl) ?_ | refine ko_steps mi_in117 1 _ (50, [(7, .ref 104), (6, .ref 110), (0, .ref 0), (1, .int x1), (2, .int x2), (3, .int x3), (4, .int x4), (5, .int x5)], [.int (-11)], (0, 0), ks i a q r) (by rfl) ?_
            exact ft_ret mi_k117 (by rfl) (hP (-11) _ _ _ _ hG trivial)
          ·
            have c335 : (i 7040).toInt ≠ (0 : Int32).toInt := kd_eqF c; clear c
            have fi_6656 : ((0 : Int) ≤ (i 6656).toInt) ∧ ((i 6656).toInt ≤ 2) := hG.I.1 6656
            first | refine ft_go mi_k117 2 45 [(7, .ref 104), (6, .ref 110), (0, .ref 0), (1, .int x1), (2, .int x2), (3, .int x3), (4, .int x4), (5, .int x5)] [.int (i 6656)] i a q r (by rfl) ?_ | refine ko_steps mi_in117 2 _ (45, [(7, .ref 104), (6, .ref 110), (0, .ref 0), (1, .int x1), (2, .int x2), (3, .int x3), (4, .int x4), (5, .int x5)], [.int (i 6656)], (0, 0), ks i a q r) (by rfl) ?_
            refine ft_if mi_k117 ((i 6656) != 0) 51 48 [(7, .ref 104), (6, .ref 110), (0, .ref 0), (1, .int x1), (2, .int x2), (3, .int x3), (4, .int x4), (5, .int x5)] [] (by rfl) (fun c => ?_) (fun c => ?_)
            ·
              have c336 : (i 6656).toInt ≠ (0 : Int32).toInt := kd_ne c; clear c
              first | refine ft_go mi_k117 3 57 [(7, .ref 104), (6, .ref 110), (0, .ref 0), (1, .int x1), (2, .int x2), (3, .int x3), (4, .int x4), (5, .int x5)] [.int 2, .int (i 7040)] i a q r (by rfl) ?_ | refine ko_steps mi_in117 3 _ (57, [(7, .ref 104), (6, .ref 110), (0, .ref 0), (1, .int x1), (2, .int x2), (3, .int x3), (4, .int x4), (5, .int x5)], [.int 2, .int (i 7040)], (0, 0), ks i a q r) (by rfl) ?_
              refine ft_if mi_k117 ((i 7040) != 2) 82 60 [(7, .ref 104), (6, .ref 110), (0, .ref 0), (1, .int x1), (2, .int x2), (3, .int x3), (4, .int x4), (5, .int x5)] [] (by rfl) (fun c => ?_) (fun c => ?_)
              ·
                have c337 : (i 7040).toInt ≠ (2 : Int32).toInt := kd_ne c; clear c
                first | refine ft_go mi_k117 1 84 [(7, .ref 104), (6, .ref 110), (0, .ref 0), (1, .int x1), (2, .int x2), (3, .int x3), (4, .int x4), (5, .int x5)] [.int (-12)] i a q r (by rfl) ?_ | refine ko_steps mi_in117 1 _ (84, [(7, .ref 104), (6, .ref 110), (0, .ref 0), (1, .int x1), (2, .int x2), (3, .int x3), (4, .int x4), (5, .int x5)], [.int (-12)], (0, 0), ks i a q r) (by rfl) ?_
                exact ft_ret mi_k117 (by rfl) (hP (-12) _ _ _ _ hG trivial)
              ·
                have c338 : (i 7040).toInt = (2 : Int32).toInt := kd_neF c; clear c
                first | refine ft_go mi_k117 3 66 [(7, .ref 104), (6, .ref 110), (0, .ref 0), (1, .int x1), (2, .int x2), (3, .int x3), (4, .int x4), (5, .int x5)] [.int 2, .int (i 6656)] i a q r (by rfl) ?_ | refine ko_steps mi_in117 3 _ (66, [(7, .ref 104), (6, .ref 110), (0, .ref 0), (1, .int x1), (2, .int x2), (3, .int x3), (4, .int x4), (5, .int x5)], [.int 2, .int (i 6656)], (0, 0), ks i a q r) (by rfl) ?_
                refine ft_if mi_k117 ((i 6656) != 2) 82 69 [(7, .ref 104), (6, .ref 110), (0, .ref 0), (1, .int x1), (2, .int x2), (3, .int x3), (4, .int x4), (5, .int x5)] [] (by rfl) (fun c => ?_) (fun c => ?_)
                ·
                  have c339 : (i 6656).toInt ≠ (2 : Int32).toInt := kd_ne c; clear c
                  first | refine ft_go mi_k117 1 84 [(7, .ref 104), (6, .ref 110), (0, .ref 0), (1, .int x1), (2, .int x2), (3, .int x3), (4, .int x4), (5, .int x5)] [.int (-12)] i a q r (by rfl) ?_ | refine ko_steps mi_in117 1 _ (84, [(7, .ref 104), (6, .ref 110), (0, .ref 0), (1, .int x1), (2, .int x2), (3, .int x3), (4, .int x4), (5, .int x5)], [.int (-12)], (0, 0), ks i a q r) (by rfl) ?_
                  exact ft_ret mi_k117 (by rfl) (hP (-12) _ _ _ _ hG trivial)
                ·
                  have c340 : (i 6656).toInt = (2 : Int32).toInt := kd_neF c; clear c
                  have fi_7042 : ((0 : Int) ≤ (i 7042).toInt) ∧ ((i 7042).toInt ≤ 4) := hG.I.1 7042
                  have fi_6658 : ((0 : Int) ≤ (i 6658).toInt) ∧ ((i 6658).toInt ≤ 4) := hG.I.1 6658
                  first | refine ft_go mi_k117 4 79 [(7, .ref 104), (6, .ref 110), (0, .ref 0), (1, .int x1), (2, .int x2), (3, .int x3), (4, .int x4), (5, .int x5)] [.int (i 6658), .int (i 7042)] i a q r (by rfl) ?_ | refine ko_steps mi_in117 4 _ (79, [(7, .ref 104), (6, .ref 110), (0, .ref 0), (1, .int x1), (2, .int x2), (3, .int x3), (4, .int x4), (5, .int x5)], [.int (i 6658), .int (i 7042)], (0, 0), ks i a q r) (by rfl) ?_
                  refine ft_if mi_k117 ((i 7042) == (i 6658)) 85 82 [(7, .ref 104), (6, .ref 110), (0, .ref 0), (1, .int x1), (2, .int x2), (3, .int x3), (4, .int x4), (5, .int x5)] [] (by rfl) (fun c => ?_) (fun c => ?_)
                  ·
                    have c341 : (i 7042).toInt = (i 6658).toInt := kd_eq c; clear c
                    first | refine ft_go mi_k117 3 90 [(7, .ref 104), (6, .ref 110), (0, .ref 0), (1, .int x1), (2, .int x2), (3, .int x3), (4, .int x4), (5, .int x5)] [.int x5, .int x2, .ref 110] i a q r (by rfl) ?_ | refine ko_steps mi_in117 3 _ (90, [(7, .ref 104), (6, .ref 110), (0, .ref 0), (1, .int x1), (2, .int x2), (3, .int x3), (4, .int x4), (5, .int x5)], [.int x5, .int x2, .ref 110], (0, 0), ks i a q r) (by rfl) ?_
                    refine ko_callPI mi_k117.1 (pc := 90) (ls := [(7, .ref 104), (6, .ref 110), (0, .ref 0), (1, .int x1), (2, .int x2), (3, .int x3), (4, .int x4), (5, .int x5)]) (st := [.int x5, .int x2, .ref 110]) (h := ks i a q r) (i := (.invokevirtual 324, 3, 37, 0, 9, 0, 316)) (mi_k117.2 _ _ (by rfl)) (ft_invS mi_pq37 (by rfl)) (cy := mi_c37) mi_pq37 rfl (kc37_110 hG.I hG.R x2 x5) (by decide) ?_
                    intro vg342 hg342
                    rcases hg342 with ⟨eg342, hg342⟩ | ⟨eg342, hg342⟩
                    ·
                      subst eg342
                      have fi_7043 : ((0 : Int) ≤ (i 7043).toInt) ∧ ((i 7043).toInt ≤ 60) := hG.I.1 7043
                      have z343 : ((0 : Int) ≤ x5.toInt) ∧ (x5.toInt ≤ (i 7043).toInt) ∧ ((0 : Int) ≤ x2.toInt) ∧ ((x2.toInt + x5.toInt) ≤ (i 7043).toInt) := hg342
                      first | refine ft_go mi_k117 4 102 [(7, .ref 104), (6, .ref 110), (0, .ref 0), (1, .int x1), (2, .int x2), (3, .int x3), (4, .int x4), (5, .int x5)] [.int x5, .int x4, .ref 104] i a q r (by rfl) ?_ | refine ko_steps mi_in117 4 _ (102, [(7, .ref 104), (6, .ref 110), (0, .ref 0), (1, .int x1), (2, .int x2), (3, .int x3), (4, .int x4), (5, .int x5)], [.int x5, .int x4, .ref 104], (0, 0), ks i a q r) (by rfl) ?_
                      refine ko_callPI mi_k117.1 (pc := 102) (ls := [(7, .ref 104), (6, .ref 110), (0, .ref 0), (1, .int x1), (2, .int x2), (3, .int x3), (4, .int x4), (5, .int x5)]) (st := [.int x5, .int x4, .ref 104]) (h := ks i a q r) (i := (.invokevirtual 324, 3, 37, 0, 9, 0, 316)) (mi_k117.2 _ _ (by rfl)) (ft_invS mi_pq37 (by rfl)) (cy := mi_c37) mi_pq37 rfl (kc37_104 hG.I hG.R x4 x5) (by decide) ?_
                      intro vg344 hg344
                      rcases hg344 with ⟨eg344, hg344⟩ | ⟨eg344, hg344⟩
                      ·
                        subst eg344
                        have fi_6659 : ((0 : Int) ≤ (i 6659).toInt) ∧ ((i 6659).toInt ≤ 60) := hG.I.1 6659
                        have z345 : ((0 : Int) ≤ x5.toInt) ∧ (x5.toInt ≤ (i 6659).toInt) ∧ ((0 : Int) ≤ x4.toInt) ∧ ((x4.toInt + x5.toInt) ≤ (i 6659).toInt) := hg344
                        first | refine ft_go mi_k117 8 126 [(7, .ref 104), (6, .ref 110), (0, .ref 0), (1, .int x1), (2, .int x2), (3, .int x3), (4, .int x4), (5, .int x5)] [.int x5, .int x4, .ref 105, .int x2, .ref 111] i a q r (by rfl) ?_ | refine ko_steps mi_in117 8 _ (126, [(7, .ref 104), (6, .ref 110), (0, .ref 0), (1, .int x1), (2, .int x2), (3, .int x3), (4, .int x4), (5, .int x5)], [.int x5, .int x4, .ref 105, .int x2, .ref 111], (0, 0), ks i a q r) (by rfl) ?_
                        have hJ346 := kG_q hG 105 rfl (z := mi_cpy (q 111) (q 105) x2.toNatClampNeg x4.toNatClampNeg x5.toNatClampNeg) (kcpy_len2 (n := 60) (c := 60) (m := 60) (b := 60) (sp := x2) (dp := x4) (n1 := x5) (hG.I.2.2.2 111) rfl (hG.I.2.2.2 105) rfl (oz3 z343.1) (oz3 z343.2.2.1) (oz3 z345.2.2.1) (oz1278 fi_7043.2 z343.2.2.2) (oz1278 fi_6659.2 z345.2.2.2))
                        refine ko_copyL2 mi_k117.1 (l := q 111) (g := q 105) (n := 60) (c := 60) (m := 60) (b := 60) (mi_k117.2 _ _ (by rfl)) (by rfl) (by rfl) (by rfl) (by rfl) (by rfl) (hG.I.2.2.2 111) rfl (hG.I.2.2.2 105) rfl (oz3 z343.1) (oz3 z343.2.2.1) (oz3 z345.2.2.1) (oz1278 fi_7043.2 z343.2.2.2) (oz1278 fi_6659.2 z345.2.2.2) (h5 := ks i a (ku q 105 (mi_cpy (q 111) (q 105) x2.toNatClampNeg x4.toNatClampNeg x5.toNatClampNeg)) r) (by rfl) ?_
                        first | refine ft_go mi_k117 1 131 [(7, .ref 104), (6, .ref 110), (0, .ref 0), (1, .int x1), (2, .int x2), (3, .int x3), (4, .int x4), (5, .int x5)] [.int x5] i a (ku q 105 (mi_cpy (q 111) (q 105) x2.toNatClampNeg x4.toNatClampNeg x5.toNatClampNeg)) r (by rfl) ?_ | refine ko_steps mi_in117 1 _ (131, [(7, .ref 104), (6, .ref 110), (0, .ref 0), (1, .int x1), (2, .int x2), (3, .int x3), (4, .int x4), (5, .int x5)], [.int x5], (0, 0), ks i a (ku q 105 (mi_cpy (q 111) (q 105) x2.toNatClampNeg x4.toNatClampNeg x5.toNatClampNeg)) r) (by rfl) ?_
                        exact ft_ret mi_k117 (by rfl) (hP x5 _ _ _ _ hJ346 trivial)
                      ·
                        subst eg344
                        have fi_6659 : ((0 : Int) ≤ (i 6659).toInt) ∧ ((i 6659).toInt ≤ 60) := hG.I.1 6659
                        have z347 : ¬ (((0 : Int) ≤ x5.toInt) ∧ (x5.toInt ≤ (i 6659).toInt) ∧ ((0 : Int) ≤ x4.toInt) ∧ ((x4.toInt + x5.toInt) ≤ (i 6659).toInt)) := hg344
                        first | refine ft_go mi_k117 2 110 [(7, .ref 104), (6, .ref 110), (0, .ref 0), (1, .int x1), (2, .int x2), (3, .int x3), (4, .int x4), (5, .int x5)] [.int (-13)] i a q r (by rfl) ?_ | refine ko_steps mi_in117 2 _ (110, [(7, .ref 104), (6, .ref 110), (0, .ref 0), (1, .int x1), (2, .int x2), (3, .int x3), (4, .int x4), (5, .int x5)], [.int (-13)], (0, 0), ks i a q r) (by rfl) ?_
                        exact ft_ret mi_k117 (by rfl) (hP (-13) _ _ _ _ hG trivial)
                    ·
                      subst eg342
                      have fi_7043 : ((0 : Int) ≤ (i 7043).toInt) ∧ ((i 7043).toInt ≤ 60) := hG.I.1 7043
                      have z348 : ¬ (((0 : Int) ≤ x5.toInt) ∧ (x5.toInt ≤ (i 7043).toInt) ∧ ((0 : Int) ≤ x2.toInt) ∧ ((x2.toInt + x5.toInt) ≤ (i 7043).toInt)) := hg342
                      first | refine ft_go mi_k117 2 110 [(7, .ref 104), (6, .ref 110), (0, .ref 0), (1, .int x1), (2, .int x2), (3, .int x3), (4, .int x4), (5, .int x5)] [.int (-13)] i a q r (by rfl) ?_ | refine ko_steps mi_in117 2 _ (110, [(7, .ref 104), (6, .ref 110), (0, .ref 0), (1, .int x1), (2, .int x2), (3, .int x3), (4, .int x4), (5, .int x5)], [.int (-13)], (0, 0), ks i a q r) (by rfl) ?_
                      exact ft_ret mi_k117 (by rfl) (hP (-13) _ _ _ _ hG trivial)
                  ·
                    have c349 : (i 7042).toInt ≠ (i 6658).toInt := kd_eqF c; clear c
                    first | refine ft_go mi_k117 1 84 [(7, .ref 104), (6, .ref 110), (0, .ref 0), (1, .int x1), (2, .int x2), (3, .int x3), (4, .int x4), (5, .int x5)] [.int (-12)] i a q r (by rfl) ?_ | refine ko_steps mi_in117 1 _ (84, [(7, .ref 104), (6, .ref 110), (0, .ref 0), (1, .int x1), (2, .int x2), (3, .int x3), (4, .int x4), (5, .int x5)], [.int (-12)], (0, 0), ks i a q r) (by rfl) ?_
                    exact ft_ret mi_k117 (by rfl) (hP (-12) _ _ _ _ hG trivial)
            ·
              have c350 : (i 6656).toInt = (0 : Int32).toInt := kd_neF c; clear c
              first | refine ft_go mi_k117 1 50 [(7, .ref 104), (6, .ref 110), (0, .ref 0), (1, .int x1), (2, .int x2), (3, .int x3), (4, .int x4), (5, .int x5)] [.int (-11)] i a q r (by rfl) ?_ | refine ko_steps mi_in117 1 _ (50, [(7, .ref 104), (6, .ref 110), (0, .ref 0), (1, .int x1), (2, .int x2), (3, .int x3), (4, .int x4), (5, .int x5)], [.int (-11)], (0, 0), ks i a q r) (by rfl) ?_
              exact ft_ret mi_k117 (by rfl) (hP (-11) _ _ _ _ hG trivial)
        by_cases w351 : x3.toInt = 1
        ·
          refine ko_eq (x1 := (29, [(6, .ref 110), (0, .ref 0), (1, .int x1), (2, .int x2), (3, .int x3), (4, .int x4), (5, .int x5)], [.int 1, .ref 97], (0, 0), ks i a q r)) (by rw [(kj_eq w351 (by decide) : x3 = 1)]) ?_
          have fi_7040 : ((0 : Int) ≤ (i 7040).toInt) ∧ ((i 7040).toInt ≤ 2) := hG.I.1 7040
          first | refine ft_go mi_k117 4 37 [(7, .ref 106), (6, .ref 110), (0, .ref 0), (1, .int x1), (2, .int x2), (3, .int x3), (4, .int x4), (5, .int x5)] [.int (i 7040)] i a q r (by rfl) ?_ | refine ko_steps mi_in117 4 _ (37, [(7, .ref 106), (6, .ref 110), (0, .ref 0), (1, .int x1), (2, .int x2), (3, .int x3), (4, .int x4), (5, .int x5)], [.int (i 7040)], (0, 0), ks i a q r) (by rfl) ?_
          refine ft_if mi_k117 ((i 7040) == 0) 48 40 [(7, .ref 106), (6, .ref 110), (0, .ref 0), (1, .int x1), (2, .int x2), (3, .int x3), (4, .int x4), (5, .int x5)] [] (by rfl) (fun c => ?_) (fun c => ?_)
          ·
            have c352 : (i 7040).toInt = (0 : Int32).toInt := kd_eq c; clear c
            first | refine ft_go mi_k117 1 50 [(7, .ref 106), (6, .ref 110), (0, .ref 0), (1, .int x1), (2, .int x2), (3, .int x3), (4, .int x4), (5, .int x5)] [.int (-11)] i a q r (by rfl) ?_ | refine ko_steps mi_in117 1 _ (50, [(7, .ref 106), (6, .ref 110), (0, .ref 0), (1, .int x1), (2, .int x2), (3, .int x3), (4, .int x4), (5, .int x5)], [.int (-11)], (0, 0), ks i a q r) (by rfl) ?_
            exact ft_ret mi_k117 (by rfl) (hP (-11) _ _ _ _ hG trivial)
          ·
            have c353 : (i 7040).toInt ≠ (0 : Int32).toInt := kd_eqF c; clear c
            have fi_6784 : ((0 : Int) ≤ (i 6784).toInt) ∧ ((i 6784).toInt ≤ 2) := hG.I.1 6784
            first | refine ft_go mi_k117 2 45 [(7, .ref 106), (6, .ref 110), (0, .ref 0), (1, .int x1), (2, .int x2), (3, .int x3), (4, .int x4), (5, .int x5)] [.int (i 6784)] i a q r (by rfl) ?_ | refine ko_steps mi_in117 2 _ (45, [(7, .ref 106), (6, .ref 110), (0, .ref 0), (1, .int x1), (2, .int x2), (3, .int x3), (4, .int x4), (5, .int x5)], [.int (i 6784)], (0, 0), ks i a q r) (by rfl) ?_
            refine ft_if mi_k117 ((i 6784) != 0) 51 48 [(7, .ref 106), (6, .ref 110), (0, .ref 0), (1, .int x1), (2, .int x2), (3, .int x3), (4, .int x4), (5, .int x5)] [] (by rfl) (fun c => ?_) (fun c => ?_)
            ·
              have c354 : (i 6784).toInt ≠ (0 : Int32).toInt := kd_ne c; clear c
              first | refine ft_go mi_k117 3 57 [(7, .ref 106), (6, .ref 110), (0, .ref 0), (1, .int x1), (2, .int x2), (3, .int x3), (4, .int x4), (5, .int x5)] [.int 2, .int (i 7040)] i a q r (by rfl) ?_ | refine ko_steps mi_in117 3 _ (57, [(7, .ref 106), (6, .ref 110), (0, .ref 0), (1, .int x1), (2, .int x2), (3, .int x3), (4, .int x4), (5, .int x5)], [.int 2, .int (i 7040)], (0, 0), ks i a q r) (by rfl) ?_
              refine ft_if mi_k117 ((i 7040) != 2) 82 60 [(7, .ref 106), (6, .ref 110), (0, .ref 0), (1, .int x1), (2, .int x2), (3, .int x3), (4, .int x4), (5, .int x5)] [] (by rfl) (fun c => ?_) (fun c => ?_)
              ·
                have c355 : (i 7040).toInt ≠ (2 : Int32).toInt := kd_ne c; clear c
                first | refine ft_go mi_k117 1 84 [(7, .ref 106), (6, .ref 110), (0, .ref 0), (1, .int x1), (2, .int x2), (3, .int x3), (4, .int x4), (5, .int x5)] [.int (-12)] i a q r (by rfl) ?_ | refine ko_steps mi_in117 1 _ (84, [(7, .ref 106), (6, .ref 110), (0, .ref 0), (1, .int x1), (2, .int x2), (3, .int x3), (4, .int x4), (5, .int x5)], [.int (-12)], (0, 0), ks i a q r) (by rfl) ?_
                exact ft_ret mi_k117 (by rfl) (hP (-12) _ _ _ _ hG trivial)
              ·
                have c356 : (i 7040).toInt = (2 : Int32).toInt := kd_neF c; clear c
                first | refine ft_go mi_k117 3 66 [(7, .ref 106), (6, .ref 110), (0, .ref 0), (1, .int x1), (2, .int x2), (3, .int x3), (4, .int x4), (5, .int x5)] [.int 2, .int (i 6784)] i a q r (by rfl) ?_ | refine ko_steps mi_in117 3 _ (66, [(7, .ref 106), (6, .ref 110), (0, .ref 0), (1, .int x1), (2, .int x2), (3, .int x3), (4, .int x4), (5, .int x5)], [.int 2, .int (i 6784)], (0, 0), ks i a q r) (by rfl) ?_
                refine ft_if mi_k117 ((i 6784) != 2) 82 69 [(7, .ref 106), (6, .ref 110), (0, .ref 0), (1, .int x1), (2, .int x2), (3, .int x3), (4, .int x4), (5, .int x5)] [] (by rfl) (fun c => ?_) (fun c => ?_)
                ·
                  have c357 : (i 6784).toInt ≠ (2 : Int32).toInt := kd_ne c; clear c
                  first | refine ft_go mi_k117 1 84 [(7, .ref 106), (6, .ref 110), (0, .ref 0), (1, .int x1), (2, .int x2), (3, .int x3), (4, .int x4), (5, .int x5)] [.int (-12)] i a q r (by rfl) ?_ | refine ko_steps mi_in117 1 _ (84, [(7, .ref 106), (6, .ref 110), (0, .ref 0), (1, .int x1), (2, .int x2), (3, .int x3), (4, .int x4), (5, .int x5)], [.int (-12)], (0, 0), ks i a q r) (by rfl) ?_
                  exact ft_ret mi_k117 (by rfl) (hP (-12) _ _ _ _ hG trivial)
                ·
                  have c358 : (i 6784).toInt = (2 : Int32).toInt := kd_neF c; clear c
                  have fi_7042 : ((0 : Int) ≤ (i 7042).toInt) ∧ ((i 7042).toInt ≤ 4) := hG.I.1 7042
                  have fi_6786 : ((0 : Int) ≤ (i 6786).toInt) ∧ ((i 6786).toInt ≤ 4) := hG.I.1 6786
                  first | refine ft_go mi_k117 4 79 [(7, .ref 106), (6, .ref 110), (0, .ref 0), (1, .int x1), (2, .int x2), (3, .int x3), (4, .int x4), (5, .int x5)] [.int (i 6786), .int (i 7042)] i a q r (by rfl) ?_ | refine ko_steps mi_in117 4 _ (79, [(7, .ref 106), (6, .ref 110), (0, .ref 0), (1, .int x1), (2, .int x2), (3, .int x3), (4, .int x4), (5, .int x5)], [.int (i 6786), .int (i 7042)], (0, 0), ks i a q r) (by rfl) ?_
                  refine ft_if mi_k117 ((i 7042) == (i 6786)) 85 82 [(7, .ref 106), (6, .ref 110), (0, .ref 0), (1, .int x1), (2, .int x2), (3, .int x3), (4, .int x4), (5, .int x5)] [] (by rfl) (fun c => ?_) (fun c => ?_)
                  ·
                    have c359 : (i 7042).toInt = (i 6786).toInt := kd_eq c; clear c
                    first | refine ft_go mi_k117 3 90 [(7, .ref 106), (6, .ref 110), (0, .ref 0), (1, .int x1), (2, .int x2), (3, .int x3), (4, .int x4), (5, .int x5)] [.int x5, .int x2, .ref 110] i a q r (by rfl) ?_ | refine ko_steps mi_in117 3 _ (90, [(7, .ref 106), (6, .ref 110), (0, .ref 0), (1, .int x1), (2, .int x2), (3, .int x3), (4, .int x4), (5, .int x5)], [.int x5, .int x2, .ref 110], (0, 0), ks i a q r) (by rfl) ?_
                    refine ko_callPI mi_k117.1 (pc := 90) (ls := [(7, .ref 106), (6, .ref 110), (0, .ref 0), (1, .int x1), (2, .int x2), (3, .int x3), (4, .int x4), (5, .int x5)]) (st := [.int x5, .int x2, .ref 110]) (h := ks i a q r) (i := (.invokevirtual 324, 3, 37, 0, 9, 0, 316)) (mi_k117.2 _ _ (by rfl)) (ft_invS mi_pq37 (by rfl)) (cy := mi_c37) mi_pq37 rfl (kc37_110 hG.I hG.R x2 x5) (by decide) ?_
                    intro vg360 hg360
                    rcases hg360 with ⟨eg360, hg360⟩ | ⟨eg360, hg360⟩
                    ·
                      subst eg360
                      have fi_7043 : ((0 : Int) ≤ (i 7043).toInt) ∧ ((i 7043).toInt ≤ 60) := hG.I.1 7043
                      have z361 : ((0 : Int) ≤ x5.toInt) ∧ (x5.toInt ≤ (i 7043).toInt) ∧ ((0 : Int) ≤ x2.toInt) ∧ ((x2.toInt + x5.toInt) ≤ (i 7043).toInt) := hg360
                      first | refine ft_go mi_k117 4 102 [(7, .ref 106), (6, .ref 110), (0, .ref 0), (1, .int x1), (2, .int x2), (3, .int x3), (4, .int x4), (5, .int x5)] [.int x5, .int x4, .ref 106] i a q r (by rfl) ?_ | refine ko_steps mi_in117 4 _ (102, [(7, .ref 106), (6, .ref 110), (0, .ref 0), (1, .int x1), (2, .int x2), (3, .int x3), (4, .int x4), (5, .int x5)], [.int x5, .int x4, .ref 106], (0, 0), ks i a q r) (by rfl) ?_
                      refine ko_callPI mi_k117.1 (pc := 102) (ls := [(7, .ref 106), (6, .ref 110), (0, .ref 0), (1, .int x1), (2, .int x2), (3, .int x3), (4, .int x4), (5, .int x5)]) (st := [.int x5, .int x4, .ref 106]) (h := ks i a q r) (i := (.invokevirtual 324, 3, 37, 0, 9, 0, 316)) (mi_k117.2 _ _ (by rfl)) (ft_invS mi_pq37 (by rfl)) (cy := mi_c37) mi_pq37 rfl (kc37_106 hG.I hG.R x4 x5) (by decide) ?_
                      intro vg362 hg362
                      rcases hg362 with ⟨eg362, hg362⟩ | ⟨eg362, hg362⟩
                      ·
                        subst eg362
                        have fi_6787 : ((0 : Int) ≤ (i 6787).toInt) ∧ ((i 6787).toInt ≤ 60) := hG.I.1 6787
                        have z363 : ((0 : Int) ≤ x5.toInt) ∧ (x5.toInt ≤ (i 6787).toInt) ∧ ((0 : Int) ≤ x4.toInt) ∧ ((x4.toInt + x5.toInt) ≤ (i 6787).toInt) := hg362
                        first | refine ft_go mi_k117 8 126 [(7, .ref 106), (6, .ref 110), (0, .ref 0), (1, .int x1), (2, .int x2), (3, .int x3), (4, .int x4), (5, .int x5)] [.int x5, .int x4, .ref 107, .int x2, .ref 111] i a q r (by rfl) ?_ | refine ko_steps mi_in117 8 _ (126, [(7, .ref 106), (6, .ref 110), (0, .ref 0), (1, .int x1), (2, .int x2), (3, .int x3), (4, .int x4), (5, .int x5)], [.int x5, .int x4, .ref 107, .int x2, .ref 111], (0, 0), ks i a q r) (by rfl) ?_
                        have hJ364 := kG_q hG 107 rfl (z := mi_cpy (q 111) (q 107) x2.toNatClampNeg x4.toNatClampNeg x5.toNatClampNeg) (kcpy_len2 (n := 60) (c := 60) (m := 60) (b := 60) (sp := x2) (dp := x4) (n1 := x5) (hG.I.2.2.2 111) rfl (hG.I.2.2.2 107) rfl (oz3 z361.1) (oz3 z361.2.2.1) (oz3 z363.2.2.1) (oz1278 fi_7043.2 z361.2.2.2) (oz1278 fi_6787.2 z363.2.2.2))
                        refine ko_copyL2 mi_k117.1 (l := q 111) (g := q 107) (n := 60) (c := 60) (m := 60) (b := 60) (mi_k117.2 _ _ (by rfl)) (by rfl) (by rfl) (by rfl) (by rfl) (by rfl) (hG.I.2.2.2 111) rfl (hG.I.2.2.2 107) rfl (oz3 z361.1) (oz3 z361.2.2.1) (oz3 z363.2.2.1) (oz1278 fi_7043.2 z361.2.2.2) (oz1278 fi_6787.2 z363.2.2.2) (h5 := ks i a (ku q 107 (mi_cpy (q 111) (q 107) x2.toNatClampNeg x4.toNatClampNeg x5.toNatClampNeg)) r) (by rfl) ?_
                        first | refine ft_go mi_k117 1 131 [(7, .ref 106), (6, .ref 110), (0, .ref 0), (1, .int x1), (2, .int x2), (3, .int x3), (4, .int x4), (5, .int x5)] [.int x5] i a (ku q 107 (mi_cpy (q 111) (q 107) x2.toNatClampNeg x4.toNatClampNeg x5.toNatClampNeg)) r (by rfl) ?_ | refine ko_steps mi_in117 1 _ (131, [(7, .ref 106), (6, .ref 110), (0, .ref 0), (1, .int x1), (2, .int x2), (3, .int x3), (4, .int x4), (5, .int x5)], [.int x5], (0, 0), ks i a (ku q 107 (mi_cpy (q 111) (q 107) x2.toNatClampNeg x4.toNatClampNeg x5.toNatClampNeg)) r) (by rfl) ?_
                        exact ft_ret mi_k117 (by rfl) (hP x5 _ _ _ _ hJ364 trivial)
                      ·
                        subst eg362
                        have fi_6787 : ((0 : Int) ≤ (i 6787).toInt) ∧ ((i 6787).toInt ≤ 60) := hG.I.1 6787
                        have z365 : ¬ (((0 : Int) ≤ x5.toInt) ∧ (x5.toInt ≤ (i 6787).toInt) ∧ ((0 : Int) ≤ x4.toInt) ∧ ((x4.toInt + x5.toInt) ≤ (i 6787).toInt)) := hg362
                        first | refine ft_go mi_k117 2 110 [(7, .ref 106), (6, .ref 110), (0, .ref 0), (1, .int x1), (2, .int x2), (3, .int x3), (4, .int x4), (5, .int x5)] [.int (-13)] i a q r (by rfl) ?_ | refine ko_steps mi_in117 2 _ (110, [(7, .ref 106), (6, .ref 110), (0, .ref 0), (1, .int x1), (2, .int x2), (3, .int x3), (4, .int x4), (5, .int x5)], [.int (-13)], (0, 0), ks i a q r) (by rfl) ?_
                        exact ft_ret mi_k117 (by rfl) (hP (-13) _ _ _ _ hG trivial)
                    ·
                      subst eg360
                      have fi_7043 : ((0 : Int) ≤ (i 7043).toInt) ∧ ((i 7043).toInt ≤ 60) := hG.I.1 7043
                      have z366 : ¬ (((0 : Int) ≤ x5.toInt) ∧ (x5.toInt ≤ (i 7043).toInt) ∧ ((0 : Int) ≤ x2.toInt) ∧ ((x2.toInt + x5.toInt) ≤ (i 7043).toInt)) := hg360
                      first | refine ft_go mi_k117 2 110 [(7, .ref 106), (6, .ref 110), (0, .ref 0), (1, .int x1), (2, .int x2), (3, .int x3), (4, .int x4), (5, .int x5)] [.int (-13)] i a q r (by rfl) ?_ | refine ko_steps mi_in117 2 _ (110, [(7, .ref 106), (6, .ref 110), (0, .ref 0), (1, .int x1), (2, .int x2), (3, .int x3), (4, .int x4), (5, .int x5)], [.int (-13)], (0, 0), ks i a q r) (by rfl) ?_
                      exact ft_ret mi_k117 (by rfl) (hP (-13) _ _ _ _ hG trivial)
                  ·
                    have c367 : (i 7042).toInt ≠ (i 6786).toInt := kd_eqF c; clear c
                    first | refine ft_go mi_k117 1 84 [(7, .ref 106), (6, .ref 110), (0, .ref 0), (1, .int x1), (2, .int x2), (3, .int x3), (4, .int x4), (5, .int x5)] [.int (-12)] i a q r (by rfl) ?_ | refine ko_steps mi_in117 1 _ (84, [(7, .ref 106), (6, .ref 110), (0, .ref 0), (1, .int x1), (2, .int x2), (3, .int x3), (4, .int x4), (5, .int x5)], [.int (-12)], (0, 0), ks i a q r) (by rfl) ?_
                    exact ft_ret mi_k117 (by rfl) (hP (-12) _ _ _ _ hG trivial)
            ·
              have c368 : (i 6784).toInt = (0 : Int32).toInt := kd_neF c; clear c
              first | refine ft_go mi_k117 1 50 [(7, .ref 106), (6, .ref 110), (0, .ref 0), (1, .int x1), (2, .int x2), (3, .int x3), (4, .int x4), (5, .int x5)] [.int (-11)] i a q r (by rfl) ?_ | refine ko_steps mi_in117 1 _ (50, [(7, .ref 106), (6, .ref 110), (0, .ref 0), (1, .int x1), (2, .int x2), (3, .int x3), (4, .int x4), (5, .int x5)], [.int (-11)], (0, 0), ks i a q r) (by rfl) ?_
              exact ft_ret mi_k117 (by rfl) (hP (-11) _ _ _ _ hG trivial)
        by_cases w369 : x3.toInt = 2
        ·
          refine ko_eq (x1 := (29, [(6, .ref 110), (0, .ref 0), (1, .int x1), (2, .int x2), (3, .int x3), (4, .int x4), (5, .int x5)], [.int 2, .ref 97], (0, 0), ks i a q r)) (by rw [(kj_eq w369 (by decide) : x3 = 2)]) ?_
          have fi_7040 : ((0 : Int) ≤ (i 7040).toInt) ∧ ((i 7040).toInt ≤ 2) := hG.I.1 7040
          first | refine ft_go mi_k117 4 37 [(7, .ref 108), (6, .ref 110), (0, .ref 0), (1, .int x1), (2, .int x2), (3, .int x3), (4, .int x4), (5, .int x5)] [.int (i 7040)] i a q r (by rfl) ?_ | refine ko_steps mi_in117 4 _ (37, [(7, .ref 108), (6, .ref 110), (0, .ref 0), (1, .int x1), (2, .int x2), (3, .int x3), (4, .int x4), (5, .int x5)], [.int (i 7040)], (0, 0), ks i a q r) (by rfl) ?_
          refine ft_if mi_k117 ((i 7040) == 0) 48 40 [(7, .ref 108), (6, .ref 110), (0, .ref 0), (1, .int x1), (2, .int x2), (3, .int x3), (4, .int x4), (5, .int x5)] [] (by rfl) (fun c => ?_) (fun c => ?_)
          ·
            have c370 : (i 7040).toInt = (0 : Int32).toInt := kd_eq c; clear c
            first | refine ft_go mi_k117 1 50 [(7, .ref 108), (6, .ref 110), (0, .ref 0), (1, .int x1), (2, .int x2), (3, .int x3), (4, .int x4), (5, .int x5)] [.int (-11)] i a q r (by rfl) ?_ | refine ko_steps mi_in117 1 _ (50, [(7, .ref 108), (6, .ref 110), (0, .ref 0), (1, .int x1), (2, .int x2), (3, .int x3), (4, .int x4), (5, .int x5)], [.int (-11)], (0, 0), ks i a q r) (by rfl) ?_
            exact ft_ret mi_k117 (by rfl) (hP (-11) _ _ _ _ hG trivial)
          ·
            have c371 : (i 7040).toInt ≠ (0 : Int32).toInt := kd_eqF c; clear c
            have fi_6912 : ((0 : Int) ≤ (i 6912).toInt) ∧ ((i 6912).toInt ≤ 2) := hG.I.1 6912
            first | refine ft_go mi_k117 2 45 [(7, .ref 108), (6, .ref 110), (0, .ref 0), (1, .int x1), (2, .int x2), (3, .int x3), (4, .int x4), (5, .int x5)] [.int (i 6912)] i a q r (by rfl) ?_ | refine ko_steps mi_in117 2 _ (45, [(7, .ref 108), (6, .ref 110), (0, .ref 0), (1, .int x1), (2, .int x2), (3, .int x3), (4, .int x4), (5, .int x5)], [.int (i 6912)], (0, 0), ks i a q r) (by rfl) ?_
            refine ft_if mi_k117 ((i 6912) != 0) 51 48 [(7, .ref 108), (6, .ref 110), (0, .ref 0), (1, .int x1), (2, .int x2), (3, .int x3), (4, .int x4), (5, .int x5)] [] (by rfl) (fun c => ?_) (fun c => ?_)
            ·
              have c372 : (i 6912).toInt ≠ (0 : Int32).toInt := kd_ne c; clear c
              first | refine ft_go mi_k117 3 57 [(7, .ref 108), (6, .ref 110), (0, .ref 0), (1, .int x1), (2, .int x2), (3, .int x3), (4, .int x4), (5, .int x5)] [.int 2, .int (i 7040)] i a q r (by rfl) ?_ | refine ko_steps mi_in117 3 _ (57, [(7, .ref 108), (6, .ref 110), (0, .ref 0), (1, .int x1), (2, .int x2), (3, .int x3), (4, .int x4), (5, .int x5)], [.int 2, .int (i 7040)], (0, 0), ks i a q r) (by rfl) ?_
              refine ft_if mi_k117 ((i 7040) != 2) 82 60 [(7, .ref 108), (6, .ref 110), (0, .ref 0), (1, .int x1), (2, .int x2), (3, .int x3), (4, .int x4), (5, .int x5)] [] (by rfl) (fun c => ?_) (fun c => ?_)
              ·
                have c373 : (i 7040).toInt ≠ (2 : Int32).toInt := kd_ne c; clear c
                first | refine ft_go mi_k117 1 84 [(7, .ref 108), (6, .ref 110), (0, .ref 0), (1, .int x1), (2, .int x2), (3, .int x3), (4, .int x4), (5, .int x5)] [.int (-12)] i a q r (by rfl) ?_ | refine ko_steps mi_in117 1 _ (84, [(7, .ref 108), (6, .ref 110), (0, .ref 0), (1, .int x1), (2, .int x2), (3, .int x3), (4, .int x4), (5, .int x5)], [.int (-12)], (0, 0), ks i a q r) (by rfl) ?_
                exact ft_ret mi_k117 (by rfl) (hP (-12) _ _ _ _ hG trivial)
              ·
                have c374 : (i 7040).toInt = (2 : Int32).toInt := kd_neF c; clear c
                first | refine ft_go mi_k117 3 66 [(7, .ref 108), (6, .ref 110), (0, .ref 0), (1, .int x1), (2, .int x2), (3, .int x3), (4, .int x4), (5, .int x5)] [.int 2, .int (i 6912)] i a q r (by rfl) ?_ | refine ko_steps mi_in117 3 _ (66, [(7, .ref 108), (6, .ref 110), (0, .ref 0), (1, .int x1), (2, .int x2), (3, .int x3), (4, .int x4), (5, .int x5)], [.int 2, .int (i 6912)], (0, 0), ks i a q r) (by rfl) ?_
                refine ft_if mi_k117 ((i 6912) != 2) 82 69 [(7, .ref 108), (6, .ref 110), (0, .ref 0), (1, .int x1), (2, .int x2), (3, .int x3), (4, .int x4), (5, .int x5)] [] (by rfl) (fun c => ?_) (fun c => ?_)
                ·
                  have c375 : (i 6912).toInt ≠ (2 : Int32).toInt := kd_ne c; clear c
                  first | refine ft_go mi_k117 1 84 [(7, .ref 108), (6, .ref 110), (0, .ref 0), (1, .int x1), (2, .int x2), (3, .int x3), (4, .int x4), (5, .int x5)] [.int (-12)] i a q r (by rfl) ?_ | refine ko_steps mi_in117 1 _ (84, [(7, .ref 108), (6, .ref 110), (0, .ref 0), (1, .int x1), (2, .int x2), (3, .int x3), (4, .int x4), (5, .int x5)], [.int (-12)], (0, 0), ks i a q r) (by rfl) ?_
                  exact ft_ret mi_k117 (by rfl) (hP (-12) _ _ _ _ hG trivial)
                ·
                  have c376 : (i 6912).toInt = (2 : Int32).toInt := kd_neF c; clear c
                  have fi_7042 : ((0 : Int) ≤ (i 7042).toInt) ∧ ((i 7042).toInt ≤ 4) := hG.I.1 7042
                  have fi_6914 : ((0 : Int) ≤ (i 6914).toInt) ∧ ((i 6914).toInt ≤ 4) := hG.I.1 6914
                  first | refine ft_go mi_k117 4 79 [(7, .ref 108), (6, .ref 110), (0, .ref 0), (1, .int x1), (2, .int x2), (3, .int x3), (4, .int x4), (5, .int x5)] [.int (i 6914), .int (i 7042)] i a q r (by rfl) ?_ | refine ko_steps mi_in117 4 _ (79, [(7, .ref 108), (6, .ref 110), (0, .ref 0), (1, .int x1), (2, .int x2), (3, .int x3), (4, .int x4), (5, .int x5)], [.int (i 6914), .int (i 7042)], (0, 0), ks i a q r) (by rfl) ?_
                  refine ft_if mi_k117 ((i 7042) == (i 6914)) 85 82 [(7, .ref 108), (6, .ref 110), (0, .ref 0), (1, .int x1), (2, .int x2), (3, .int x3), (4, .int x4), (5, .int x5)] [] (by rfl) (fun c => ?_) (fun c => ?_)
                  ·
                    have c377 : (i 7042).toInt = (i 6914).toInt := kd_eq c; clear c
                    first | refine ft_go mi_k117 3 90 [(7, .ref 108), (6, .ref 110), (0, .ref 0), (1, .int x1), (2, .int x2), (3, .int x3), (4, .int x4), (5, .int x5)] [.int x5, .int x2, .ref 110] i a q r (by rfl) ?_ | refine ko_steps mi_in117 3 _ (90, [(7, .ref 108), (6, .ref 110), (0, .ref 0), (1, .int x1), (2, .int x2), (3, .int x3), (4, .int x4), (5, .int x5)], [.int x5, .int x2, .ref 110], (0, 0), ks i a q r) (by rfl) ?_
                    refine ko_callPI mi_k117.1 (pc := 90) (ls := [(7, .ref 108), (6, .ref 110), (0, .ref 0), (1, .int x1), (2, .int x2), (3, .int x3), (4, .int x4), (5, .int x5)]) (st := [.int x5, .int x2, .ref 110]) (h := ks i a q r) (i := (.invokevirtual 324, 3, 37, 0, 9, 0, 316)) (mi_k117.2 _ _ (by rfl)) (ft_invS mi_pq37 (by rfl)) (cy := mi_c37) mi_pq37 rfl (kc37_110 hG.I hG.R x2 x5) (by decide) ?_
                    intro vg378 hg378
                    rcases hg378 with ⟨eg378, hg378⟩ | ⟨eg378, hg378⟩
                    ·
                      subst eg378
                      have fi_7043 : ((0 : Int) ≤ (i 7043).toInt) ∧ ((i 7043).toInt ≤ 60) := hG.I.1 7043
                      have z379 : ((0 : Int) ≤ x5.toInt) ∧ (x5.toInt ≤ (i 7043).toInt) ∧ ((0 : Int) ≤ x2.toInt) ∧ ((x2.toInt + x5.toInt) ≤ (i 7043).toInt) := hg378
                      first | refine ft_go mi_k117 4 102 [(7, .ref 108), (6, .ref 110), (0, .ref 0), (1, .int x1), (2, .int x2), (3, .int x3), (4, .int x4), (5, .int x5)] [.int x5, .int x4, .ref 108] i a q r (by rfl) ?_ | refine ko_steps mi_in117 4 _ (102, [(7, .ref 108), (6, .ref 110), (0, .ref 0), (1, .int x1), (2, .int x2), (3, .int x3), (4, .int x4), (5, .int x5)], [.int x5, .int x4, .ref 108], (0, 0), ks i a q r) (by rfl) ?_
                      refine ko_callPI mi_k117.1 (pc := 102) (ls := [(7, .ref 108), (6, .ref 110), (0, .ref 0), (1, .int x1), (2, .int x2), (3, .int x3), (4, .int x4), (5, .int x5)]) (st := [.int x5, .int x4, .ref 108]) (h := ks i a q r) (i := (.invokevirtual 324, 3, 37, 0, 9, 0, 316)) (mi_k117.2 _ _ (by rfl)) (ft_invS mi_pq37 (by rfl)) (cy := mi_c37) mi_pq37 rfl (kc37_108 hG.I hG.R x4 x5) (by decide) ?_
                      intro vg380 hg380
                      rcases hg380 with ⟨eg380, hg380⟩ | ⟨eg380, hg380⟩
                      ·
                        subst eg380
                        have fi_6915 : ((0 : Int) ≤ (i 6915).toInt) ∧ ((i 6915).toInt ≤ 60) := hG.I.1 6915
                        have z381 : ((0 : Int) ≤ x5.toInt) ∧ (x5.toInt ≤ (i 6915).toInt) ∧ ((0 : Int) ≤ x4.toInt) ∧ ((x4.toInt + x5.toInt) ≤ (i 6915).toInt) := hg380
                        first | refine ft_go mi_k117 8 126 [(7, .ref 108), (6, .ref 110), (0, .ref 0), (1, .int x1), (2, .int x2), (3, .int x3), (4, .int x4), (5, .int x5)] [.int x5, .int x4, .ref 109, .int x2, .ref 111] i a q r (by rfl) ?_ | refine ko_steps mi_in117 8 _ (126, [(7, .ref 108), (6, .ref 110), (0, .ref 0), (1, .int x1), (2, .int x2), (3, .int x3), (4, .int x4), (5, .int x5)], [.int x5, .int x4, .ref 109, .int x2, .ref 111], (0, 0), ks i a q r) (by rfl) ?_
                        have hJ382 := kG_q hG 109 rfl (z := mi_cpy (q 111) (q 109) x2.toNatClampNeg x4.toNatClampNeg x5.toNatClampNeg) (kcpy_len2 (n := 60) (c := 60) (m := 60) (b := 60) (sp := x2) (dp := x4) (n1 := x5) (hG.I.2.2.2 111) rfl (hG.I.2.2.2 109) rfl (oz3 z379.1) (oz3 z379.2.2.1) (oz3 z381.2.2.1) (oz1278 fi_7043.2 z379.2.2.2) (oz1278 fi_6915.2 z381.2.2.2))
                        refine ko_copyL2 mi_k117.1 (l := q 111) (g := q 109) (n := 60) (c := 60) (m := 60) (b := 60) (mi_k117.2 _ _ (by rfl)) (by rfl) (by rfl) (by rfl) (by rfl) (by rfl) (hG.I.2.2.2 111) rfl (hG.I.2.2.2 109) rfl (oz3 z379.1) (oz3 z379.2.2.1) (oz3 z381.2.2.1) (oz1278 fi_7043.2 z379.2.2.2) (oz1278 fi_6915.2 z381.2.2.2) (h5 := ks i a (ku q 109 (mi_cpy (q 111) (q 109) x2.toNatClampNeg x4.toNatClampNeg x5.toNatClampNeg)) r) (by rfl) ?_
                        first | refine ft_go mi_k117 1 131 [(7, .ref 108), (6, .ref 110), (0, .ref 0), (1, .int x1), (2, .int x2), (3, .int x3), (4, .int x4), (5, .int x5)] [.int x5] i a (ku q 109 (mi_cpy (q 111) (q 109) x2.toNatClampNeg x4.toNatClampNeg x5.toNatClampNeg)) r (by rfl) ?_ | refine ko_steps mi_in117 1 _ (131, [(7, .ref 108), (6, .ref 110), (0, .ref 0), (1, .int x1), (2, .int x2), (3, .int x3), (4, .int x4), (5, .int x5)], [.int x5], (0, 0), ks i a (ku q 109 (mi_cpy (q 111) (q 109) x2.toNatClampNeg x4.toNatClampNeg x5.toNatClampNeg)) r) (by rfl) ?_
                        exact ft_ret mi_k117 (by rfl) (hP x5 _ _ _ _ hJ382 trivial)
                      ·
                        subst eg380
                        have fi_6915 : ((0 : Int) ≤ (i 6915).toInt) ∧ ((i 6915).toInt ≤ 60) := hG.I.1 6915
                        have z383 : ¬ (((0 : Int) ≤ x5.toInt) ∧ (x5.toInt ≤ (i 6915).toInt) ∧ ((0 : Int) ≤ x4.toInt) ∧ ((x4.toInt + x5.toInt) ≤ (i 6915).toInt)) := hg380
                        first | refine ft_go mi_k117 2 110 [(7, .ref 108), (6, .ref 110), (0, .ref 0), (1, .int x1), (2, .int x2), (3, .int x3), (4, .int x4), (5, .int x5)] [.int (-13)] i a q r (by rfl) ?_ | refine ko_steps mi_in117 2 _ (110, [(7, .ref 108), (6, .ref 110), (0, .ref 0), (1, .int x1), (2, .int x2), (3, .int x3), (4, .int x4), (5, .int x5)], [.int (-13)], (0, 0), ks i a q r) (by rfl) ?_
                        exact ft_ret mi_k117 (by rfl) (hP (-13) _ _ _ _ hG trivial)
                    ·
                      subst eg378
                      have fi_7043 : ((0 : Int) ≤ (i 7043).toInt) ∧ ((i 7043).toInt ≤ 60) := hG.I.1 7043
                      have z384 : ¬ (((0 : Int) ≤ x5.toInt) ∧ (x5.toInt ≤ (i 7043).toInt) ∧ ((0 : Int) ≤ x2.toInt) ∧ ((x2.toInt + x5.toInt) ≤ (i 7043).toInt)) := hg378
                      first | refine ft_go mi_k117 2 110 [(7, .ref 108), (6, .ref 110), (0, .ref 0), (1, .int x1), (2, .int x2), (3, .int x3), (4, .int x4), (5, .int x5)] [.int (-13)] i a q r (by rfl) ?_ | refine ko_steps mi_in117 2 _ (110, [(7, .ref 108), (6, .ref 110), (0, .ref 0), (1, .int x1), (2, .int x2), (3, .int x3), (4, .int x4), (5, .int x5)], [.int (-13)], (0, 0), ks i a q r) (by rfl) ?_
                      exact ft_ret mi_k117 (by rfl) (hP (-13) _ _ _ _ hG trivial)
                  ·
                    have c385 : (i 7042).toInt ≠ (i 6914).toInt := kd_eqF c; clear c
                    first | refine ft_go mi_k117 1 84 [(7, .ref 108), (6, .ref 110), (0, .ref 0), (1, .int x1), (2, .int x2), (3, .int x3), (4, .int x4), (5, .int x5)] [.int (-12)] i a q r (by rfl) ?_ | refine ko_steps mi_in117 1 _ (84, [(7, .ref 108), (6, .ref 110), (0, .ref 0), (1, .int x1), (2, .int x2), (3, .int x3), (4, .int x4), (5, .int x5)], [.int (-12)], (0, 0), ks i a q r) (by rfl) ?_
                    exact ft_ret mi_k117 (by rfl) (hP (-12) _ _ _ _ hG trivial)
            ·
              have c386 : (i 6912).toInt = (0 : Int32).toInt := kd_neF c; clear c
              first | refine ft_go mi_k117 1 50 [(7, .ref 108), (6, .ref 110), (0, .ref 0), (1, .int x1), (2, .int x2), (3, .int x3), (4, .int x4), (5, .int x5)] [.int (-11)] i a q r (by rfl) ?_ | refine ko_steps mi_in117 1 _ (50, [(7, .ref 108), (6, .ref 110), (0, .ref 0), (1, .int x1), (2, .int x2), (3, .int x3), (4, .int x4), (5, .int x5)], [.int (-11)], (0, 0), ks i a q r) (by rfl) ?_
              exact ft_ret mi_k117 (by rfl) (hP (-11) _ _ _ _ hG trivial)
        by_cases w387 : x3.toInt = 3
        ·
          refine ko_eq (x1 := (29, [(6, .ref 110), (0, .ref 0), (1, .int x1), (2, .int x2), (3, .int x3), (4, .int x4), (5, .int x5)], [.int 3, .ref 97], (0, 0), ks i a q r)) (by rw [(kj_eq w387 (by decide) : x3 = 3)]) ?_
          have fi_7040 : ((0 : Int) ≤ (i 7040).toInt) ∧ ((i 7040).toInt ≤ 2) := hG.I.1 7040
          first | refine ft_go mi_k117 4 37 [(7, .ref 110), (6, .ref 110), (0, .ref 0), (1, .int x1), (2, .int x2), (3, .int x3), (4, .int x4), (5, .int x5)] [.int (i 7040)] i a q r (by rfl) ?_ | refine ko_steps mi_in117 4 _ (37, [(7, .ref 110), (6, .ref 110), (0, .ref 0), (1, .int x1), (2, .int x2), (3, .int x3), (4, .int x4), (5, .int x5)], [.int (i 7040)], (0, 0), ks i a q r) (by rfl) ?_
          refine ft_if mi_k117 ((i 7040) == 0) 48 40 [(7, .ref 110), (6, .ref 110), (0, .ref 0), (1, .int x1), (2, .int x2), (3, .int x3), (4, .int x4), (5, .int x5)] [] (by rfl) (fun c => ?_) (fun c => ?_)
          ·
            have c388 : (i 7040).toInt = (0 : Int32).toInt := kd_eq c; clear c
            first | refine ft_go mi_k117 1 50 [(7, .ref 110), (6, .ref 110), (0, .ref 0), (1, .int x1), (2, .int x2), (3, .int x3), (4, .int x4), (5, .int x5)] [.int (-11)] i a q r (by rfl) ?_ | refine ko_steps mi_in117 1 _ (50, [(7, .ref 110), (6, .ref 110), (0, .ref 0), (1, .int x1), (2, .int x2), (3, .int x3), (4, .int x4), (5, .int x5)], [.int (-11)], (0, 0), ks i a q r) (by rfl) ?_
            exact ft_ret mi_k117 (by rfl) (hP (-11) _ _ _ _ hG trivial)
          ·
            have c389 : (i 7040).toInt ≠ (0 : Int32).toInt := kd_eqF c; clear c
            first | refine ft_go mi_k117 2 45 [(7, .ref 110), (6, .ref 110), (0, .ref 0), (1, .int x1), (2, .int x2), (3, .int x3), (4, .int x4), (5, .int x5)] [.int (i 7040)] i a q r (by rfl) ?_ | refine ko_steps mi_in117 2 _ (45, [(7, .ref 110), (6, .ref 110), (0, .ref 0), (1, .int x1), (2, .int x2), (3, .int x3), (4, .int x4), (5, .int x5)], [.int (i 7040)], (0, 0), ks i a q r) (by rfl) ?_
            refine ft_if mi_k117 ((i 7040) != 0) 51 48 [(7, .ref 110), (6, .ref 110), (0, .ref 0), (1, .int x1), (2, .int x2), (3, .int x3), (4, .int x4), (5, .int x5)] [] (by rfl) (fun c => ?_) (fun c => ?_)
            ·
              have c390 : (i 7040).toInt ≠ (0 : Int32).toInt := kd_ne c; clear c
              first | refine ft_go mi_k117 3 57 [(7, .ref 110), (6, .ref 110), (0, .ref 0), (1, .int x1), (2, .int x2), (3, .int x3), (4, .int x4), (5, .int x5)] [.int 2, .int (i 7040)] i a q r (by rfl) ?_ | refine ko_steps mi_in117 3 _ (57, [(7, .ref 110), (6, .ref 110), (0, .ref 0), (1, .int x1), (2, .int x2), (3, .int x3), (4, .int x4), (5, .int x5)], [.int 2, .int (i 7040)], (0, 0), ks i a q r) (by rfl) ?_
              refine ft_if mi_k117 ((i 7040) != 2) 82 60 [(7, .ref 110), (6, .ref 110), (0, .ref 0), (1, .int x1), (2, .int x2), (3, .int x3), (4, .int x4), (5, .int x5)] [] (by rfl) (fun c => ?_) (fun c => ?_)
              ·
                have c391 : (i 7040).toInt ≠ (2 : Int32).toInt := kd_ne c; clear c
                first | refine ft_go mi_k117 1 84 [(7, .ref 110), (6, .ref 110), (0, .ref 0), (1, .int x1), (2, .int x2), (3, .int x3), (4, .int x4), (5, .int x5)] [.int (-12)] i a q r (by rfl) ?_ | refine ko_steps mi_in117 1 _ (84, [(7, .ref 110), (6, .ref 110), (0, .ref 0), (1, .int x1), (2, .int x2), (3, .int x3), (4, .int x4), (5, .int x5)], [.int (-12)], (0, 0), ks i a q r) (by rfl) ?_
                exact ft_ret mi_k117 (by rfl) (hP (-12) _ _ _ _ hG trivial)
              ·
                have c392 : (i 7040).toInt = (2 : Int32).toInt := kd_neF c; clear c
                first | refine ft_go mi_k117 3 66 [(7, .ref 110), (6, .ref 110), (0, .ref 0), (1, .int x1), (2, .int x2), (3, .int x3), (4, .int x4), (5, .int x5)] [.int 2, .int (i 7040)] i a q r (by rfl) ?_ | refine ko_steps mi_in117 3 _ (66, [(7, .ref 110), (6, .ref 110), (0, .ref 0), (1, .int x1), (2, .int x2), (3, .int x3), (4, .int x4), (5, .int x5)], [.int 2, .int (i 7040)], (0, 0), ks i a q r) (by rfl) ?_
                refine ft_if mi_k117 ((i 7040) != 2) 82 69 [(7, .ref 110), (6, .ref 110), (0, .ref 0), (1, .int x1), (2, .int x2), (3, .int x3), (4, .int x4), (5, .int x5)] [] (by rfl) (fun c => ?_) (fun c => ?_)
                ·
                  have c393 : (i 7040).toInt ≠ (2 : Int32).toInt := kd_ne c; clear c
                  exact (oz1271 c392 c393 fi_7040.2 kn2).elim
                ·
                  have c394 : (i 7040).toInt = (2 : Int32).toInt := kd_neF c; clear c
                  have fi_7042 : ((0 : Int) ≤ (i 7042).toInt) ∧ ((i 7042).toInt ≤ 4) := hG.I.1 7042
                  first | refine ft_go mi_k117 4 79 [(7, .ref 110), (6, .ref 110), (0, .ref 0), (1, .int x1), (2, .int x2), (3, .int x3), (4, .int x4), (5, .int x5)] [.int (i 7042), .int (i 7042)] i a q r (by rfl) ?_ | refine ko_steps mi_in117 4 _ (79, [(7, .ref 110), (6, .ref 110), (0, .ref 0), (1, .int x1), (2, .int x2), (3, .int x3), (4, .int x4), (5, .int x5)], [.int (i 7042), .int (i 7042)], (0, 0), ks i a q r) (by rfl) ?_
                  refine ft_if mi_k117 ((i 7042) == (i 7042)) 85 82 [(7, .ref 110), (6, .ref 110), (0, .ref 0), (1, .int x1), (2, .int x2), (3, .int x3), (4, .int x4), (5, .int x5)] [] (by rfl) (fun c => ?_) (fun c => ?_)
                  ·
                    have c395 : (i 7042).toInt = (i 7042).toInt := kd_eq c; clear c
                    first | refine ft_go mi_k117 3 90 [(7, .ref 110), (6, .ref 110), (0, .ref 0), (1, .int x1), (2, .int x2), (3, .int x3), (4, .int x4), (5, .int x5)] [.int x5, .int x2, .ref 110] i a q r (by rfl) ?_ | refine ko_steps mi_in117 3 _ (90, [(7, .ref 110), (6, .ref 110), (0, .ref 0), (1, .int x1), (2, .int x2), (3, .int x3), (4, .int x4), (5, .int x5)], [.int x5, .int x2, .ref 110], (0, 0), ks i a q r) (by rfl) ?_
                    refine ko_callPI mi_k117.1 (pc := 90) (ls := [(7, .ref 110), (6, .ref 110), (0, .ref 0), (1, .int x1), (2, .int x2), (3, .int x3), (4, .int x4), (5, .int x5)]) (st := [.int x5, .int x2, .ref 110]) (h := ks i a q r) (i := (.invokevirtual 324, 3, 37, 0, 9, 0, 316)) (mi_k117.2 _ _ (by rfl)) (ft_invS mi_pq37 (by rfl)) (cy := mi_c37) mi_pq37 rfl (kc37_110 hG.I hG.R x2 x5) (by decide) ?_
                    intro vg396 hg396
                    rcases hg396 with ⟨eg396, hg396⟩ | ⟨eg396, hg396⟩
                    ·
                      subst eg396
                      have fi_7043 : ((0 : Int) ≤ (i 7043).toInt) ∧ ((i 7043).toInt ≤ 60) := hG.I.1 7043
                      have z397 : ((0 : Int) ≤ x5.toInt) ∧ (x5.toInt ≤ (i 7043).toInt) ∧ ((0 : Int) ≤ x2.toInt) ∧ ((x2.toInt + x5.toInt) ≤ (i 7043).toInt) := hg396
                      first | refine ft_go mi_k117 4 102 [(7, .ref 110), (6, .ref 110), (0, .ref 0), (1, .int x1), (2, .int x2), (3, .int x3), (4, .int x4), (5, .int x5)] [.int x5, .int x4, .ref 110] i a q r (by rfl) ?_ | refine ko_steps mi_in117 4 _ (102, [(7, .ref 110), (6, .ref 110), (0, .ref 0), (1, .int x1), (2, .int x2), (3, .int x3), (4, .int x4), (5, .int x5)], [.int x5, .int x4, .ref 110], (0, 0), ks i a q r) (by rfl) ?_
                      refine ko_callPI mi_k117.1 (pc := 102) (ls := [(7, .ref 110), (6, .ref 110), (0, .ref 0), (1, .int x1), (2, .int x2), (3, .int x3), (4, .int x4), (5, .int x5)]) (st := [.int x5, .int x4, .ref 110]) (h := ks i a q r) (i := (.invokevirtual 324, 3, 37, 0, 9, 0, 316)) (mi_k117.2 _ _ (by rfl)) (ft_invS mi_pq37 (by rfl)) (cy := mi_c37) mi_pq37 rfl (kc37_110 hG.I hG.R x4 x5) (by decide) ?_
                      intro vg398 hg398
                      rcases hg398 with ⟨eg398, hg398⟩ | ⟨eg398, hg398⟩
                      ·
                        subst eg398
                        have z399 : ((0 : Int) ≤ x5.toInt) ∧ (x5.toInt ≤ (i 7043).toInt) ∧ ((0 : Int) ≤ x4.toInt) ∧ ((x4.toInt + x5.toInt) ≤ (i 7043).toInt) := hg398
                        first | refine ft_go mi_k117 8 126 [(7, .ref 110), (6, .ref 110), (0, .ref 0), (1, .int x1), (2, .int x2), (3, .int x3), (4, .int x4), (5, .int x5)] [.int x5, .int x4, .ref 111, .int x2, .ref 111] i a q r (by rfl) ?_ | refine ko_steps mi_in117 8 _ (126, [(7, .ref 110), (6, .ref 110), (0, .ref 0), (1, .int x1), (2, .int x2), (3, .int x3), (4, .int x4), (5, .int x5)], [.int x5, .int x4, .ref 111, .int x2, .ref 111], (0, 0), ks i a q r) (by rfl) ?_
                        have hJ400 := kG_q hG 111 rfl (z := mi_cpy (q 111) (q 111) x2.toNatClampNeg x4.toNatClampNeg x5.toNatClampNeg) (kcpy_len2 (n := 60) (c := 60) (m := 60) (b := 60) (sp := x2) (dp := x4) (n1 := x5) (hG.I.2.2.2 111) rfl (hG.I.2.2.2 111) rfl (oz3 z397.1) (oz3 z397.2.2.1) (oz3 z399.2.2.1) (oz1278 fi_7043.2 z397.2.2.2) (oz1278 fi_7043.2 z399.2.2.2))
                        refine ko_copyL2 mi_k117.1 (l := q 111) (g := q 111) (n := 60) (c := 60) (m := 60) (b := 60) (mi_k117.2 _ _ (by rfl)) (by rfl) (by rfl) (by rfl) (by rfl) (by rfl) (hG.I.2.2.2 111) rfl (hG.I.2.2.2 111) rfl (oz3 z397.1) (oz3 z397.2.2.1) (oz3 z399.2.2.1) (oz1278 fi_7043.2 z397.2.2.2) (oz1278 fi_7043.2 z399.2.2.2) (h5 := ks i a (ku q 111 (mi_cpy (q 111) (q 111) x2.toNatClampNeg x4.toNatClampNeg x5.toNatClampNeg)) r) (by rfl) ?_
                        first | refine ft_go mi_k117 1 131 [(7, .ref 110), (6, .ref 110), (0, .ref 0), (1, .int x1), (2, .int x2), (3, .int x3), (4, .int x4), (5, .int x5)] [.int x5] i a (ku q 111 (mi_cpy (q 111) (q 111) x2.toNatClampNeg x4.toNatClampNeg x5.toNatClampNeg)) r (by rfl) ?_ | refine ko_steps mi_in117 1 _ (131, [(7, .ref 110), (6, .ref 110), (0, .ref 0), (1, .int x1), (2, .int x2), (3, .int x3), (4, .int x4), (5, .int x5)], [.int x5], (0, 0), ks i a (ku q 111 (mi_cpy (q 111) (q 111) x2.toNatClampNeg x4.toNatClampNeg x5.toNatClampNeg)) r) (by rfl) ?_
                        exact ft_ret mi_k117 (by rfl) (hP x5 _ _ _ _ hJ400 trivial)
                      ·
                        subst eg398
                        have z401 : ¬ (((0 : Int) ≤ x5.toInt) ∧ (x5.toInt ≤ (i 7043).toInt) ∧ ((0 : Int) ≤ x4.toInt) ∧ ((x4.toInt + x5.toInt) ≤ (i 7043).toInt)) := hg398
                        first | refine ft_go mi_k117 2 110 [(7, .ref 110), (6, .ref 110), (0, .ref 0), (1, .int x1), (2, .int x2), (3, .int x3), (4, .int x4), (5, .int x5)] [.int (-13)] i a q r (by rfl) ?_ | refine ko_steps mi_in117 2 _ (110, [(7, .ref 110), (6, .ref 110), (0, .ref 0), (1, .int x1), (2, .int x2), (3, .int x3), (4, .int x4), (5, .int x5)], [.int (-13)], (0, 0), ks i a q r) (by rfl) ?_
                        exact ft_ret mi_k117 (by rfl) (hP (-13) _ _ _ _ hG trivial)
                    ·
                      subst eg396
                      have fi_7043 : ((0 : Int) ≤ (i 7043).toInt) ∧ ((i 7043).toInt ≤ 60) := hG.I.1 7043
                      have z402 : ¬ (((0 : Int) ≤ x5.toInt) ∧ (x5.toInt ≤ (i 7043).toInt) ∧ ((0 : Int) ≤ x2.toInt) ∧ ((x2.toInt + x5.toInt) ≤ (i 7043).toInt)) := hg396
                      first | refine ft_go mi_k117 2 110 [(7, .ref 110), (6, .ref 110), (0, .ref 0), (1, .int x1), (2, .int x2), (3, .int x3), (4, .int x4), (5, .int x5)] [.int (-13)] i a q r (by rfl) ?_ | refine ko_steps mi_in117 2 _ (110, [(7, .ref 110), (6, .ref 110), (0, .ref 0), (1, .int x1), (2, .int x2), (3, .int x3), (4, .int x4), (5, .int x5)], [.int (-13)], (0, 0), ks i a q r) (by rfl) ?_
                      exact ft_ret mi_k117 (by rfl) (hP (-13) _ _ _ _ hG trivial)
                  ·
                    have c403 : (i 7042).toInt ≠ (i 7042).toInt := kd_eqF c; clear c
                    exact (oz1279 c403).elim
            ·
              have c404 : (i 7040).toInt = (0 : Int32).toInt := kd_neF c; clear c
              exact (oz1281 c389 c404 fi_7040.1 kn0).elim
        by_cases w405 : x3.toInt = 4
        ·
          refine ko_eq (x1 := (29, [(6, .ref 110), (0, .ref 0), (1, .int x1), (2, .int x2), (3, .int x3), (4, .int x4), (5, .int x5)], [.int 4, .ref 97], (0, 0), ks i a q r)) (by rw [(kj_eq w405 (by decide) : x3 = 4)]) ?_
          have fi_7040 : ((0 : Int) ≤ (i 7040).toInt) ∧ ((i 7040).toInt ≤ 2) := hG.I.1 7040
          first | refine ft_go mi_k117 4 37 [(7, .ref 112), (6, .ref 110), (0, .ref 0), (1, .int x1), (2, .int x2), (3, .int x3), (4, .int x4), (5, .int x5)] [.int (i 7040)] i a q r (by rfl) ?_ | refine ko_steps mi_in117 4 _ (37, [(7, .ref 112), (6, .ref 110), (0, .ref 0), (1, .int x1), (2, .int x2), (3, .int x3), (4, .int x4), (5, .int x5)], [.int (i 7040)], (0, 0), ks i a q r) (by rfl) ?_
          refine ft_if mi_k117 ((i 7040) == 0) 48 40 [(7, .ref 112), (6, .ref 110), (0, .ref 0), (1, .int x1), (2, .int x2), (3, .int x3), (4, .int x4), (5, .int x5)] [] (by rfl) (fun c => ?_) (fun c => ?_)
          ·
            have c406 : (i 7040).toInt = (0 : Int32).toInt := kd_eq c; clear c
            first | refine ft_go mi_k117 1 50 [(7, .ref 112), (6, .ref 110), (0, .ref 0), (1, .int x1), (2, .int x2), (3, .int x3), (4, .int x4), (5, .int x5)] [.int (-11)] i a q r (by rfl) ?_ | refine ko_steps mi_in117 1 _ (50, [(7, .ref 112), (6, .ref 110), (0, .ref 0), (1, .int x1), (2, .int x2), (3, .int x3), (4, .int x4), (5, .int x5)], [.int (-11)], (0, 0), ks i a q r) (by rfl) ?_
            exact ft_ret mi_k117 (by rfl) (hP (-11) _ _ _ _ hG trivial)
          ·
            have c407 : (i 7040).toInt ≠ (0 : Int32).toInt := kd_eqF c; clear c
            have fi_7168 : ((0 : Int) ≤ (i 7168).toInt) ∧ ((i 7168).toInt ≤ 2) := hG.I.1 7168
            first | refine ft_go mi_k117 2 45 [(7, .ref 112), (6, .ref 110), (0, .ref 0), (1, .int x1), (2, .int x2), (3, .int x3), (4, .int x4), (5, .int x5)] [.int (i 7168)] i a q r (by rfl) ?_ | refine ko_steps mi_in117 2 _ (45, [(7, .ref 112), (6, .ref 110), (0, .ref 0), (1, .int x1), (2, .int x2), (3, .int x3), (4, .int x4), (5, .int x5)], [.int (i 7168)], (0, 0), ks i a q r) (by rfl) ?_
            refine ft_if mi_k117 ((i 7168) != 0) 51 48 [(7, .ref 112), (6, .ref 110), (0, .ref 0), (1, .int x1), (2, .int x2), (3, .int x3), (4, .int x4), (5, .int x5)] [] (by rfl) (fun c => ?_) (fun c => ?_)
            ·
              have c408 : (i 7168).toInt ≠ (0 : Int32).toInt := kd_ne c; clear c
              first | refine ft_go mi_k117 3 57 [(7, .ref 112), (6, .ref 110), (0, .ref 0), (1, .int x1), (2, .int x2), (3, .int x3), (4, .int x4), (5, .int x5)] [.int 2, .int (i 7040)] i a q r (by rfl) ?_ | refine ko_steps mi_in117 3 _ (57, [(7, .ref 112), (6, .ref 110), (0, .ref 0), (1, .int x1), (2, .int x2), (3, .int x3), (4, .int x4), (5, .int x5)], [.int 2, .int (i 7040)], (0, 0), ks i a q r) (by rfl) ?_
              refine ft_if mi_k117 ((i 7040) != 2) 82 60 [(7, .ref 112), (6, .ref 110), (0, .ref 0), (1, .int x1), (2, .int x2), (3, .int x3), (4, .int x4), (5, .int x5)] [] (by rfl) (fun c => ?_) (fun c => ?_)
              ·
                have c409 : (i 7040).toInt ≠ (2 : Int32).toInt := kd_ne c; clear c
                first | refine ft_go mi_k117 1 84 [(7, .ref 112), (6, .ref 110), (0, .ref 0), (1, .int x1), (2, .int x2), (3, .int x3), (4, .int x4), (5, .int x5)] [.int (-12)] i a q r (by rfl) ?_ | refine ko_steps mi_in117 1 _ (84, [(7, .ref 112), (6, .ref 110), (0, .ref 0), (1, .int x1), (2, .int x2), (3, .int x3), (4, .int x4), (5, .int x5)], [.int (-12)], (0, 0), ks i a q r) (by rfl) ?_
                exact ft_ret mi_k117 (by rfl) (hP (-12) _ _ _ _ hG trivial)
              ·
                have c410 : (i 7040).toInt = (2 : Int32).toInt := kd_neF c; clear c
                first | refine ft_go mi_k117 3 66 [(7, .ref 112), (6, .ref 110), (0, .ref 0), (1, .int x1), (2, .int x2), (3, .int x3), (4, .int x4), (5, .int x5)] [.int 2, .int (i 7168)] i a q r (by rfl) ?_ | refine ko_steps mi_in117 3 _ (66, [(7, .ref 112), (6, .ref 110), (0, .ref 0), (1, .int x1), (2, .int x2), (3, .int x3), (4, .int x4), (5, .int x5)], [.int 2, .int (i 7168)], (0, 0), ks i a q r) (by rfl) ?_
                refine ft_if mi_k117 ((i 7168) != 2) 82 69 [(7, .ref 112), (6, .ref 110), (0, .ref 0), (1, .int x1), (2, .int x2), (3, .int x3), (4, .int x4), (5, .int x5)] [] (by rfl) (fun c => ?_) (fun c => ?_)
                ·
                  have c411 : (i 7168).toInt ≠ (2 : Int32).toInt := kd_ne c; clear c
                  first | refine ft_go mi_k117 1 84 [(7, .ref 112), (6, .ref 110), (0, .ref 0), (1, .int x1), (2, .int x2), (3, .int x3), (4, .int x4), (5, .int x5)] [.int (-12)] i a q r (by rfl) ?_ | refine ko_steps mi_in117 1 _ (84, [(7, .ref 112), (6, .ref 110), (0, .ref 0), (1, .int x1), (2, .int x2), (3, .int x3), (4, .int x4), (5, .int x5)], [.int (-12)], (0, 0), ks i a q r) (by rfl) ?_
                  exact ft_ret mi_k117 (by rfl) (hP (-12) _ _ _ _ hG trivial)
                ·
                  have c412 : (i 7168).toInt = (2 : Int32).toInt := kd_neF c; clear c
                  have fi_7042 : ((0 : Int) ≤ (i 7042).toInt) ∧ ((i 7042).toInt ≤ 4) := hG.I.1 7042
                  have fi_7170 : ((0 : Int) ≤ (i 7170).toInt) ∧ ((i 7170).toInt ≤ 4) := hG.I.1 7170
                  first | refine ft_go mi_k117 4 79 [(7, .ref 112), (6, .ref 110), (0, .ref 0), (1, .int x1), (2, .int x2), (3, .int x3), (4, .int x4), (5, .int x5)] [.int (i 7170), .int (i 7042)] i a q r (by rfl) ?_ | refine ko_steps mi_in117 4 _ (79, [(7, .ref 112), (6, .ref 110), (0, .ref 0), (1, .int x1), (2, .int x2), (3, .int x3), (4, .int x4), (5, .int x5)], [.int (i 7170), .int (i 7042)], (0, 0), ks i a q r) (by rfl) ?_
                  refine ft_if mi_k117 ((i 7042) == (i 7170)) 85 82 [(7, .ref 112), (6, .ref 110), (0, .ref 0), (1, .int x1), (2, .int x2), (3, .int x3), (4, .int x4), (5, .int x5)] [] (by rfl) (fun c => ?_) (fun c => ?_)
                  ·
                    have c413 : (i 7042).toInt = (i 7170).toInt := kd_eq c; clear c
                    first | refine ft_go mi_k117 3 90 [(7, .ref 112), (6, .ref 110), (0, .ref 0), (1, .int x1), (2, .int x2), (3, .int x3), (4, .int x4), (5, .int x5)] [.int x5, .int x2, .ref 110] i a q r (by rfl) ?_ | refine ko_steps mi_in117 3 _ (90, [(7, .ref 112), (6, .ref 110), (0, .ref 0), (1, .int x1), (2, .int x2), (3, .int x3), (4, .int x4), (5, .int x5)], [.int x5, .int x2, .ref 110], (0, 0), ks i a q r) (by rfl) ?_
                    refine ko_callPI mi_k117.1 (pc := 90) (ls := [(7, .ref 112), (6, .ref 110), (0, .ref 0), (1, .int x1), (2, .int x2), (3, .int x3), (4, .int x4), (5, .int x5)]) (st := [.int x5, .int x2, .ref 110]) (h := ks i a q r) (i := (.invokevirtual 324, 3, 37, 0, 9, 0, 316)) (mi_k117.2 _ _ (by rfl)) (ft_invS mi_pq37 (by rfl)) (cy := mi_c37) mi_pq37 rfl (kc37_110 hG.I hG.R x2 x5) (by decide) ?_
                    intro vg414 hg414
                    rcases hg414 with ⟨eg414, hg414⟩ | ⟨eg414, hg414⟩
                    ·
                      subst eg414
                      have fi_7043 : ((0 : Int) ≤ (i 7043).toInt) ∧ ((i 7043).toInt ≤ 60) := hG.I.1 7043
                      have z415 : ((0 : Int) ≤ x5.toInt) ∧ (x5.toInt ≤ (i 7043).toInt) ∧ ((0 : Int) ≤ x2.toInt) ∧ ((x2.toInt + x5.toInt) ≤ (i 7043).toInt) := hg414
                      first | refine ft_go mi_k117 4 102 [(7, .ref 112), (6, .ref 110), (0, .ref 0), (1, .int x1), (2, .int x2), (3, .int x3), (4, .int x4), (5, .int x5)] [.int x5, .int x4, .ref 112] i a q r (by rfl) ?_ | refine ko_steps mi_in117 4 _ (102, [(7, .ref 112), (6, .ref 110), (0, .ref 0), (1, .int x1), (2, .int x2), (3, .int x3), (4, .int x4), (5, .int x5)], [.int x5, .int x4, .ref 112], (0, 0), ks i a q r) (by rfl) ?_
                      refine ko_callPI mi_k117.1 (pc := 102) (ls := [(7, .ref 112), (6, .ref 110), (0, .ref 0), (1, .int x1), (2, .int x2), (3, .int x3), (4, .int x4), (5, .int x5)]) (st := [.int x5, .int x4, .ref 112]) (h := ks i a q r) (i := (.invokevirtual 324, 3, 37, 0, 9, 0, 316)) (mi_k117.2 _ _ (by rfl)) (ft_invS mi_pq37 (by rfl)) (cy := mi_c37) mi_pq37 rfl (kc37_112 hG.I hG.R x4 x5) (by decide) ?_
                      intro vg416 hg416
                      rcases hg416 with ⟨eg416, hg416⟩ | ⟨eg416, hg416⟩
                      ·
                        subst eg416
                        have fi_7171 : ((0 : Int) ≤ (i 7171).toInt) ∧ ((i 7171).toInt ≤ 60) := hG.I.1 7171
                        have z417 : ((0 : Int) ≤ x5.toInt) ∧ (x5.toInt ≤ (i 7171).toInt) ∧ ((0 : Int) ≤ x4.toInt) ∧ ((x4.toInt + x5.toInt) ≤ (i 7171).toInt) := hg416
                        first | refine ft_go mi_k117 8 126 [(7, .ref 112), (6, .ref 110), (0, .ref 0), (1, .int x1), (2, .int x2), (3, .int x3), (4, .int x4), (5, .int x5)] [.int x5, .int x4, .ref 113, .int x2, .ref 111] i a q r (by rfl) ?_ | refine ko_steps mi_in117 8 _ (126, [(7, .ref 112), (6, .ref 110), (0, .ref 0), (1, .int x1), (2, .int x2), (3, .int x3), (4, .int x4), (5, .int x5)], [.int x5, .int x4, .ref 113, .int x2, .ref 111], (0, 0), ks i a q r) (by rfl) ?_
                        have hJ418 := kG_q hG 113 rfl (z := mi_cpy (q 111) (q 113) x2.toNatClampNeg x4.toNatClampNeg x5.toNatClampNeg) (kcpy_len2 (n := 60) (c := 60) (m := 60) (b := 60) (sp := x2) (dp := x4) (n1 := x5) (hG.I.2.2.2 111) rfl (hG.I.2.2.2 113) rfl (oz3 z415.1) (oz3 z415.2.2.1) (oz3 z417.2.2.1) (oz1278 fi_7043.2 z415.2.2.2) (oz1278 fi_7171.2 z417.2.2.2))
                        refine ko_copyL2 mi_k117.1 (l := q 111) (g := q 113) (n := 60) (c := 60) (m := 60) (b := 60) (mi_k117.2 _ _ (by rfl)) (by rfl) (by rfl) (by rfl) (by rfl) (by rfl) (hG.I.2.2.2 111) rfl (hG.I.2.2.2 113) rfl (oz3 z415.1) (oz3 z415.2.2.1) (oz3 z417.2.2.1) (oz1278 fi_7043.2 z415.2.2.2) (oz1278 fi_7171.2 z417.2.2.2) (h5 := ks i a (ku q 113 (mi_cpy (q 111) (q 113) x2.toNatClampNeg x4.toNatClampNeg x5.toNatClampNeg)) r) (by rfl) ?_
                        first | refine ft_go mi_k117 1 131 [(7, .ref 112), (6, .ref 110), (0, .ref 0), (1, .int x1), (2, .int x2), (3, .int x3), (4, .int x4), (5, .int x5)] [.int x5] i a (ku q 113 (mi_cpy (q 111) (q 113) x2.toNatClampNeg x4.toNatClampNeg x5.toNatClampNeg)) r (by rfl) ?_ | refine ko_steps mi_in117 1 _ (131, [(7, .ref 112), (6, .ref 110), (0, .ref 0), (1, .int x1), (2, .int x2), (3, .int x3), (4, .int x4), (5, .int x5)], [.int x5], (0, 0), ks i a (ku q 113 (mi_cpy (q 111) (q 113) x2.toNatClampNeg x4.toNatClampNeg x5.toNatClampNeg)) r) (by rfl) ?_
                        exact ft_ret mi_k117 (by rfl) (hP x5 _ _ _ _ hJ418 trivial)
                      ·
                        subst eg416
                        have fi_7171 : ((0 : Int) ≤ (i 7171).toInt) ∧ ((i 7171).toInt ≤ 60) := hG.I.1 7171
                        have z419 : ¬ (((0 : Int) ≤ x5.toInt) ∧ (x5.toInt ≤ (i 7171).toInt) ∧ ((0 : Int) ≤ x4.toInt) ∧ ((x4.toInt + x5.toInt) ≤ (i 7171).toInt)) := hg416
                        first | refine ft_go mi_k117 2 110 [(7, .ref 112), (6, .ref 110), (0, .ref 0), (1, .int x1), (2, .int x2), (3, .int x3), (4, .int x4), (5, .int x5)] [.int (-13)] i a q r (by rfl) ?_ | refine ko_steps mi_in117 2 _ (110, [(7, .ref 112), (6, .ref 110), (0, .ref 0), (1, .int x1), (2, .int x2), (3, .int x3), (4, .int x4), (5, .int x5)], [.int (-13)], (0, 0), ks i a q r) (by rfl) ?_
                        exact ft_ret mi_k117 (by rfl) (hP (-13) _ _ _ _ hG trivial)
                    ·
                      subst eg414
                      have fi_7043 : ((0 : Int) ≤ (i 7043).toInt) ∧ ((i 7043).toInt ≤ 60) := hG.I.1 7043
                      have z420 : ¬ (((0 : Int) ≤ x5.toInt) ∧ (x5.toInt ≤ (i 7043).toInt) ∧ ((0 : Int) ≤ x2.toInt) ∧ ((x2.toInt + x5.toInt) ≤ (i 7043).toInt)) := hg414
                      first | refine ft_go mi_k117 2 110 [(7, .ref 112), (6, .ref 110), (0, .ref 0), (1, .int x1), (2, .int x2), (3, .int x3), (4, .int x4), (5, .int x5)] [.int (-13)] i a q r (by rfl) ?_ | refine ko_steps mi_in117 2 _ (110, [(7, .ref 112), (6, .ref 110), (0, .ref 0), (1, .int x1), (2, .int x2), (3, .int x3), (4, .int x4), (5, .int x5)], [.int (-13)], (0, 0), ks i a q r) (by rfl) ?_
                      exact ft_ret mi_k117 (by rfl) (hP (-13) _ _ _ _ hG trivial)
                  ·
                    have c421 : (i 7042).toInt ≠ (i 7170).toInt := kd_eqF c; clear c
                    first | refine ft_go mi_k117 1 84 [(7, .ref 112), (6, .ref 110), (0, .ref 0), (1, .int x1), (2, .int x2), (3, .int x3), (4, .int x4), (5, .int x5)] [.int (-12)] i a q r (by rfl) ?_ | refine ko_steps mi_in117 1 _ (84, [(7, .ref 112), (6, .ref 110), (0, .ref 0), (1, .int x1), (2, .int x2), (3, .int x3), (4, .int x4), (5, .int x5)], [.int (-12)], (0, 0), ks i a q r) (by rfl) ?_
                    exact ft_ret mi_k117 (by rfl) (hP (-12) _ _ _ _ hG trivial)
            ·
              have c422 : (i 7168).toInt = (0 : Int32).toInt := kd_neF c; clear c
              first | refine ft_go mi_k117 1 50 [(7, .ref 112), (6, .ref 110), (0, .ref 0), (1, .int x1), (2, .int x2), (3, .int x3), (4, .int x4), (5, .int x5)] [.int (-11)] i a q r (by rfl) ?_ | refine ko_steps mi_in117 1 _ (50, [(7, .ref 112), (6, .ref 110), (0, .ref 0), (1, .int x1), (2, .int x2), (3, .int x3), (4, .int x4), (5, .int x5)], [.int (-11)], (0, 0), ks i a q r) (by rfl) ?_
              exact ft_ret mi_k117 (by rfl) (hP (-11) _ _ _ _ hG trivial)
        by_cases w423 : x3.toInt = 5
        ·
          refine ko_eq (x1 := (29, [(6, .ref 110), (0, .ref 0), (1, .int x1), (2, .int x2), (3, .int x3), (4, .int x4), (5, .int x5)], [.int 5, .ref 97], (0, 0), ks i a q r)) (by rw [(kj_eq w423 (by decide) : x3 = 5)]) ?_
          have fi_7040 : ((0 : Int) ≤ (i 7040).toInt) ∧ ((i 7040).toInt ≤ 2) := hG.I.1 7040
          first | refine ft_go mi_k117 4 37 [(7, .ref 114), (6, .ref 110), (0, .ref 0), (1, .int x1), (2, .int x2), (3, .int x3), (4, .int x4), (5, .int x5)] [.int (i 7040)] i a q r (by rfl) ?_ | refine ko_steps mi_in117 4 _ (37, [(7, .ref 114), (6, .ref 110), (0, .ref 0), (1, .int x1), (2, .int x2), (3, .int x3), (4, .int x4), (5, .int x5)], [.int (i 7040)], (0, 0), ks i a q r) (by rfl) ?_
          refine ft_if mi_k117 ((i 7040) == 0) 48 40 [(7, .ref 114), (6, .ref 110), (0, .ref 0), (1, .int x1), (2, .int x2), (3, .int x3), (4, .int x4), (5, .int x5)] [] (by rfl) (fun c => ?_) (fun c => ?_)
          ·
            have c424 : (i 7040).toInt = (0 : Int32).toInt := kd_eq c; clear c
            first | refine ft_go mi_k117 1 50 [(7, .ref 114), (6, .ref 110), (0, .ref 0), (1, .int x1), (2, .int x2), (3, .int x3), (4, .int x4), (5, .int x5)] [.int (-11)] i a q r (by rfl) ?_ | refine ko_steps mi_in117 1 _ (50, [(7, .ref 114), (6, .ref 110), (0, .ref 0), (1, .int x1), (2, .int x2), (3, .int x3), (4, .int x4), (5, .int x5)], [.int (-11)], (0, 0), ks i a q r) (by rfl) ?_
            exact ft_ret mi_k117 (by rfl) (hP (-11) _ _ _ _ hG trivial)
          ·
            have c425 : (i 7040).toInt ≠ (0 : Int32).toInt := kd_eqF c; clear c
            have fi_7296 : ((0 : Int) ≤ (i 7296).toInt) ∧ ((i 7296).toInt ≤ 2) := hG.I.1 7296
            first | refine ft_go mi_k117 2 45 [(7, .ref 114), (6, .ref 110), (0, .ref 0), (1, .int x1), (2, .int x2), (3, .int x3), (4, .int x4), (5, .int x5)] [.int (i 7296)] i a q r (by rfl) ?_ | refine ko_steps mi_in117 2 _ (45, [(7, .ref 114), (6, .ref 110), (0, .ref 0), (1, .int x1), (2, .int x2), (3, .int x3), (4, .int x4), (5, .int x5)], [.int (i 7296)], (0, 0), ks i a q r) (by rfl) ?_
            refine ft_if mi_k117 ((i 7296) != 0) 51 48 [(7, .ref 114), (6, .ref 110), (0, .ref 0), (1, .int x1), (2, .int x2), (3, .int x3), (4, .int x4), (5, .int x5)] [] (by rfl) (fun c => ?_) (fun c => ?_)
            ·
              have c426 : (i 7296).toInt ≠ (0 : Int32).toInt := kd_ne c; clear c
              first | refine ft_go mi_k117 3 57 [(7, .ref 114), (6, .ref 110), (0, .ref 0), (1, .int x1), (2, .int x2), (3, .int x3), (4, .int x4), (5, .int x5)] [.int 2, .int (i 7040)] i a q r (by rfl) ?_ | refine ko_steps mi_in117 3 _ (57, [(7, .ref 114), (6, .ref 110), (0, .ref 0), (1, .int x1), (2, .int x2), (3, .int x3), (4, .int x4), (5, .int x5)], [.int 2, .int (i 7040)], (0, 0), ks i a q r) (by rfl) ?_
              refine ft_if mi_k117 ((i 7040) != 2) 82 60 [(7, .ref 114), (6, .ref 110), (0, .ref 0), (1, .int x1), (2, .int x2), (3, .int x3), (4, .int x4), (5, .int x5)] [] (by rfl) (fun c => ?_) (fun c => ?_)
              ·
                have c427 : (i 7040).toInt ≠ (2 : Int32).toInt := kd_ne c; clear c
                first | refine ft_go mi_k117 1 84 [(7, .ref 114), (6, .ref 110), (0, .ref 0), (1, .int x1), (2, .int x2), (3, .int x3), (4, .int x4), (5, .int x5)] [.int (-12)] i a q r (by rfl) ?_ | refine ko_steps mi_in117 1 _ (84, [(7, .ref 114), (6, .ref 110), (0, .ref 0), (1, .int x1), (2, .int x2), (3, .int x3), (4, .int x4), (5, .int x5)], [.int (-12)], (0, 0), ks i a q r) (by rfl) ?_
                exact ft_ret mi_k117 (by rfl) (hP (-12) _ _ _ _ hG trivial)
              ·
                have c428 : (i 7040).toInt = (2 : Int32).toInt := kd_neF c; clear c
                first | refine ft_go mi_k117 3 66 [(7, .ref 114), (6, .ref 110), (0, .ref 0), (1, .int x1), (2, .int x2), (3, .int x3), (4, .int x4), (5, .int x5)] [.int 2, .int (i 7296)] i a q r (by rfl) ?_ | refine ko_steps mi_in117 3 _ (66, [(7, .ref 114), (6, .ref 110), (0, .ref 0), (1, .int x1), (2, .int x2), (3, .int x3), (4, .int x4), (5, .int x5)], [.int 2, .int (i 7296)], (0, 0), ks i a q r) (by rfl) ?_
                refine ft_if mi_k117 ((i 7296) != 2) 82 69 [(7, .ref 114), (6, .ref 110), (0, .ref 0), (1, .int x1), (2, .int x2), (3, .int x3), (4, .int x4), (5, .int x5)] [] (by rfl) (fun c => ?_) (fun c => ?_)
                ·
                  have c429 : (i 7296).toInt ≠ (2 : Int32).toInt := kd_ne c; clear c
                  first | refine ft_go mi_k117 1 84 [(7, .ref 114), (6, .ref 110), (0, .ref 0), (1, .int x1), (2, .int x2), (3, .int x3), (4, .int x4), (5, .int x5)] [.int (-12)] i a q r (by rfl) ?_ | refine ko_steps mi_in117 1 _ (84, [(7, .ref 114), (6, .ref 110), (0, .ref 0), (1, .int x1), (2, .int x2), (3, .int x3), (4, .int x4), (5, .int x5)], [.int (-12)], (0, 0), ks i a q r) (by rfl) ?_
                  exact ft_ret mi_k117 (by rfl) (hP (-12) _ _ _ _ hG trivial)
                ·
                  have c430 : (i 7296).toInt = (2 : Int32).toInt := kd_neF c; clear c
                  have fi_7042 : ((0 : Int) ≤ (i 7042).toInt) ∧ ((i 7042).toInt ≤ 4) := hG.I.1 7042
                  have fi_7298 : ((0 : Int) ≤ (i 7298).toInt) ∧ ((i 7298).toInt ≤ 4) := hG.I.1 7298
                  first | refine ft_go mi_k117 4 79 [(7, .ref 114), (6, .ref 110), (0, .ref 0), (1, .int x1), (2, .int x2), (3, .int x3), (4, .int x4), (5, .int x5)] [.int (i 7298), .int (i 7042)] i a q r (by rfl) ?_ | refine ko_steps mi_in117 4 _ (79, [(7, .ref 114), (6, .ref 110), (0, .ref 0), (1, .int x1), (2, .int x2), (3, .int x3), (4, .int x4), (5, .int x5)], [.int (i 7298), .int (i 7042)], (0, 0), ks i a q r) (by rfl) ?_
                  refine ft_if mi_k117 ((i 7042) == (i 7298)) 85 82 [(7, .ref 114), (6, .ref 110), (0, .ref 0), (1, .int x1), (2, .int x2), (3, .int x3), (4, .int x4), (5, .int x5)] [] (by rfl) (fun c => ?_) (fun c => ?_)
                  ·
                    have c431 : (i 7042).toInt = (i 7298).toInt := kd_eq c; clear c
                    first | refine ft_go mi_k117 3 90 [(7, .ref 114), (6, .ref 110), (0, .ref 0), (1, .int x1), (2, .int x2), (3, .int x3), (4, .int x4), (5, .int x5)] [.int x5, .int x2, .ref 110] i a q r (by rfl) ?_ | refine ko_steps mi_in117 3 _ (90, [(7, .ref 114), (6, .ref 110), (0, .ref 0), (1, .int x1), (2, .int x2), (3, .int x3), (4, .int x4), (5, .int x5)], [.int x5, .int x2, .ref 110], (0, 0), ks i a q r) (by rfl) ?_
                    refine ko_callPI mi_k117.1 (pc := 90) (ls := [(7, .ref 114), (6, .ref 110), (0, .ref 0), (1, .int x1), (2, .int x2), (3, .int x3), (4, .int x4), (5, .int x5)]) (st := [.int x5, .int x2, .ref 110]) (h := ks i a q r) (i := (.invokevirtual 324, 3, 37, 0, 9, 0, 316)) (mi_k117.2 _ _ (by rfl)) (ft_invS mi_pq37 (by rfl)) (cy := mi_c37) mi_pq37 rfl (kc37_110 hG.I hG.R x2 x5) (by decide) ?_
                    intro vg432 hg432
                    rcases hg432 with ⟨eg432, hg432⟩ | ⟨eg432, hg432⟩
                    ·
                      subst eg432
                      have fi_7043 : ((0 : Int) ≤ (i 7043).toInt) ∧ ((i 7043).toInt ≤ 60) := hG.I.1 7043
                      have z433 : ((0 : Int) ≤ x5.toInt) ∧ (x5.toInt ≤ (i 7043).toInt) ∧ ((0 : Int) ≤ x2.toInt) ∧ ((x2.toInt + x5.toInt) ≤ (i 7043).toInt) := hg432
                      first | refine ft_go mi_k117 4 102 [(7, .ref 114), (6, .ref 110), (0, .ref 0), (1, .int x1), (2, .int x2), (3, .int x3), (4, .int x4), (5, .int x5)] [.int x5, .int x4, .ref 114] i a q r (by rfl) ?_ | refine ko_steps mi_in117 4 _ (102, [(7, .ref 114), (6, .ref 110), (0, .ref 0), (1, .int x1), (2, .int x2), (3, .int x3), (4, .int x4), (5, .int x5)], [.int x5, .int x4, .ref 114], (0, 0), ks i a q r) (by rfl) ?_
                      refine ko_callPI mi_k117.1 (pc := 102) (ls := [(7, .ref 114), (6, .ref 110), (0, .ref 0), (1, .int x1), (2, .int x2), (3, .int x3), (4, .int x4), (5, .int x5)]) (st := [.int x5, .int x4, .ref 114]) (h := ks i a q r) (i := (.invokevirtual 324, 3, 37, 0, 9, 0, 316)) (mi_k117.2 _ _ (by rfl)) (ft_invS mi_pq37 (by rfl)) (cy := mi_c37) mi_pq37 rfl (kc37_114 hG.I hG.R x4 x5) (by decide) ?_
                      intro vg434 hg434
                      rcases hg434 with ⟨eg434, hg434⟩ | ⟨eg434, hg434⟩
                      ·
                        subst eg434
                        have fi_7299 : ((0 : Int) ≤ (i 7299).toInt) ∧ ((i 7299).toInt ≤ 60) := hG.I.1 7299
                        have z435 : ((0 : Int) ≤ x5.toInt) ∧ (x5.toInt ≤ (i 7299).toInt) ∧ ((0 : Int) ≤ x4.toInt) ∧ ((x4.toInt + x5.toInt) ≤ (i 7299).toInt) := hg434
                        first | refine ft_go mi_k117 8 126 [(7, .ref 114), (6, .ref 110), (0, .ref 0), (1, .int x1), (2, .int x2), (3, .int x3), (4, .int x4), (5, .int x5)] [.int x5, .int x4, .ref 115, .int x2, .ref 111] i a q r (by rfl) ?_ | refine ko_steps mi_in117 8 _ (126, [(7, .ref 114), (6, .ref 110), (0, .ref 0), (1, .int x1), (2, .int x2), (3, .int x3), (4, .int x4), (5, .int x5)], [.int x5, .int x4, .ref 115, .int x2, .ref 111], (0, 0), ks i a q r) (by rfl) ?_
                        have hJ436 := kG_q hG 115 rfl (z := mi_cpy (q 111) (q 115) x2.toNatClampNeg x4.toNatClampNeg x5.toNatClampNeg) (kcpy_len2 (n := 60) (c := 60) (m := 60) (b := 60) (sp := x2) (dp := x4) (n1 := x5) (hG.I.2.2.2 111) rfl (hG.I.2.2.2 115) rfl (oz3 z433.1) (oz3 z433.2.2.1) (oz3 z435.2.2.1) (oz1278 fi_7043.2 z433.2.2.2) (oz1278 fi_7299.2 z435.2.2.2))
                        refine ko_copyL2 mi_k117.1 (l := q 111) (g := q 115) (n := 60) (c := 60) (m := 60) (b := 60) (mi_k117.2 _ _ (by rfl)) (by rfl) (by rfl) (by rfl) (by rfl) (by rfl) (hG.I.2.2.2 111) rfl (hG.I.2.2.2 115) rfl (oz3 z433.1) (oz3 z433.2.2.1) (oz3 z435.2.2.1) (oz1278 fi_7043.2 z433.2.2.2) (oz1278 fi_7299.2 z435.2.2.2) (h5 := ks i a (ku q 115 (mi_cpy (q 111) (q 115) x2.toNatClampNeg x4.toNatClampNeg x5.toNatClampNeg)) r) (by rfl) ?_
                        first | refine ft_go mi_k117 1 131 [(7, .ref 114), (6, .ref 110), (0, .ref 0), (1, .int x1), (2, .int x2), (3, .int x3), (4, .int x4), (5, .int x5)] [.int x5] i a (ku q 115 (mi_cpy (q 111) (q 115) x2.toNatClampNeg x4.toNatClampNeg x5.toNatClampNeg)) r (by rfl) ?_ | refine ko_steps mi_in117 1 _ (131, [(7, .ref 114), (6, .ref 110), (0, .ref 0), (1, .int x1), (2, .int x2), (3, .int x3), (4, .int x4), (5, .int x5)], [.int x5], (0, 0), ks i a (ku q 115 (mi_cpy (q 111) (q 115) x2.toNatClampNeg x4.toNatClampNeg x5.toNatClampNeg)) r) (by rfl) ?_
                        exact ft_ret mi_k117 (by rfl) (hP x5 _ _ _ _ hJ436 trivial)
                      ·
                        subst eg434
                        have fi_7299 : ((0 : Int) ≤ (i 7299).toInt) ∧ ((i 7299).toInt ≤ 60) := hG.I.1 7299
                        have z437 : ¬ (((0 : Int) ≤ x5.toInt) ∧ (x5.toInt ≤ (i 7299).toInt) ∧ ((0 : Int) ≤ x4.toInt) ∧ ((x4.toInt + x5.toInt) ≤ (i 7299).toInt)) := hg434
                        first | refine ft_go mi_k117 2 110 [(7, .ref 114), (6, .ref 110), (0, .ref 0), (1, .int x1), (2, .int x2), (3, .int x3), (4, .int x4), (5, .int x5)] [.int (-13)] i a q r (by rfl) ?_ | refine ko_steps mi_in117 2 _ (110, [(7, .ref 114), (6, .ref 110), (0, .ref 0), (1, .int x1), (2, .int x2), (3, .int x3), (4, .int x4), (5, .int x5)], [.int (-13)], (0, 0), ks i a q r) (by rfl) ?_
                        exact ft_ret mi_k117 (by rfl) (hP (-13) _ _ _ _ hG trivial)
                    ·
                      subst eg432
                      have fi_7043 : ((0 : Int) ≤ (i 7043).toInt) ∧ ((i 7043).toInt ≤ 60) := hG.I.1 7043
                      have z438 : ¬ (((0 : Int) ≤ x5.toInt) ∧ (x5.toInt ≤ (i 7043).toInt) ∧ ((0 : Int) ≤ x2.toInt) ∧ ((x2.toInt + x5.toInt) ≤ (i 7043).toInt)) := hg432
                      first | refine ft_go mi_k117 2 110 [(7, .ref 114), (6, .ref 110), (0, .ref 0), (1, .int x1), (2, .int x2), (3, .int x3), (4, .int x4), (5, .int x5)] [.int (-13)] i a q r (by rfl) ?_ | refine ko_steps mi_in117 2 _ (110, [(7, .ref 114), (6, .ref 110), (0, .ref 0), (1, .int x1), (2, .int x2), (3, .int x3), (4, .int x4), (5, .int x5)], [.int (-13)], (0, 0), ks i a q r) (by rfl) ?_
                      exact ft_ret mi_k117 (by rfl) (hP (-13) _ _ _ _ hG trivial)
                  ·
                    have c439 : (i 7042).toInt ≠ (i 7298).toInt := kd_eqF c; clear c
                    first | refine ft_go mi_k117 1 84 [(7, .ref 114), (6, .ref 110), (0, .ref 0), (1, .int x1), (2, .int x2), (3, .int x3), (4, .int x4), (5, .int x5)] [.int (-12)] i a q r (by rfl) ?_ | refine ko_steps mi_in117 1 _ (84, [(7, .ref 114), (6, .ref 110), (0, .ref 0), (1, .int x1), (2, .int x2), (3, .int x3), (4, .int x4), (5, .int x5)], [.int (-12)], (0, 0), ks i a q r) (by rfl) ?_
                    exact ft_ret mi_k117 (by rfl) (hP (-12) _ _ _ _ hG trivial)
            ·
              have c440 : (i 7296).toInt = (0 : Int32).toInt := kd_neF c; clear c
              first | refine ft_go mi_k117 1 50 [(7, .ref 114), (6, .ref 110), (0, .ref 0), (1, .int x1), (2, .int x2), (3, .int x3), (4, .int x4), (5, .int x5)] [.int (-11)] i a q r (by rfl) ?_ | refine ko_steps mi_in117 1 _ (50, [(7, .ref 114), (6, .ref 110), (0, .ref 0), (1, .int x1), (2, .int x2), (3, .int x3), (4, .int x4), (5, .int x5)], [.int (-11)], (0, 0), ks i a q r) (by rfl) ?_
              exact ft_ret mi_k117 (by rfl) (hP (-11) _ _ _ _ hG trivial)
        exact (oz1245 w333 w351 w369 w387 w405 w423 z4.1 z4.2).elim
      by_cases w441 : x1.toInt = 4
      ·
        refine ko_eq (x1 := (21, [(0, .ref 0), (1, .int x1), (2, .int x2), (3, .int x3), (4, .int x4), (5, .int x5)], [.int 4, .ref 97], (0, 0), ks i a q r)) (by rw [(kj_eq w441 (by decide) : x1 = 4)]) ?_
        first | refine ft_go mi_k117 5 29 [(6, .ref 112), (0, .ref 0), (1, .int x1), (2, .int x2), (3, .int x3), (4, .int x4), (5, .int x5)] [.int x3, .ref 97] i a q r (by rfl) ?_ | refine ko_steps mi_in117 5 _ (29, [(6, .ref 112), (0, .ref 0), (1, .int x1), (2, .int x2), (3, .int x3), (4, .int x4), (5, .int x5)], [.int x3, .ref 97], (0, 0), ks i a q r) (by rfl) ?_
        by_cases w442 : x3.toInt = 0
        ·
          refine ko_eq (x1 := (29, [(6, .ref 112), (0, .ref 0), (1, .int x1), (2, .int x2), (3, .int x3), (4, .int x4), (5, .int x5)], [.int 0, .ref 97], (0, 0), ks i a q r)) (by rw [(kj_eq w442 (by decide) : x3 = 0)]) ?_
          have fi_7168 : ((0 : Int) ≤ (i 7168).toInt) ∧ ((i 7168).toInt ≤ 2) := hG.I.1 7168
          first | refine ft_go mi_k117 4 37 [(7, .ref 104), (6, .ref 112), (0, .ref 0), (1, .int x1), (2, .int x2), (3, .int x3), (4, .int x4), (5, .int x5)] [.int (i 7168)] i a q r (by rfl) ?_ | refine ko_steps mi_in117 4 _ (37, [(7, .ref 104), (6, .ref 112), (0, .ref 0), (1, .int x1), (2, .int x2), (3, .int x3), (4, .int x4), (5, .int x5)], [.int (i 7168)], (0, 0), ks i a q r) (by rfl) ?_
          refine ft_if mi_k117 ((i 7168) == 0) 48 40 [(7, .ref 104), (6, .ref 112), (0, .ref 0), (1, .int x1), (2, .int x2), (3, .int x3), (4, .int x4), (5, .int x5)] [] (by rfl) (fun c => ?_) (fun c => ?_)
          ·
            have c443 : (i 7168).toInt = (0 : Int32).toInt := kd_eq c; clear c
            first | refine ft_go mi_k117 1 50 [(7, .ref 104), (6, .ref 112), (0, .ref 0), (1, .int x1), (2, .int x2), (3, .int x3), (4, .int x4), (5, .int x5)] [.int (-11)] i a q r (by rfl) ?_ | refine ko_steps mi_in117 1 _ (50, [(7, .ref 104), (6, .ref 112), (0, .ref 0), (1, .int x1), (2, .int x2), (3, .int x3), (4, .int x4), (5, .int x5)], [.int (-11)], (0, 0), ks i a q r) (by rfl) ?_
            exact ft_ret mi_k117 (by rfl) (hP (-11) _ _ _ _ hG trivial)
          ·
            have c444 : (i 7168).toInt ≠ (0 : Int32).toInt := kd_eqF c; clear c
            have fi_6656 : ((0 : Int) ≤ (i 6656).toInt) ∧ ((i 6656).toInt ≤ 2) := hG.I.1 6656
            first | refine ft_go mi_k117 2 45 [(7, .ref 104), (6, .ref 112), (0, .ref 0), (1, .int x1), (2, .int x2), (3, .int x3), (4, .int x4), (5, .int x5)] [.int (i 6656)] i a q r (by rfl) ?_ | refine ko_steps mi_in117 2 _ (45, [(7, .ref 104), (6, .ref 112), (0, .ref 0), (1, .int x1), (2, .int x2), (3, .int x3), (4, .int x4), (5, .int x5)], [.int (i 6656)], (0, 0), ks i a q r) (by rfl) ?_
            refine ft_if mi_k117 ((i 6656) != 0) 51 48 [(7, .ref 104), (6, .ref 112), (0, .ref 0), (1, .int x1), (2, .int x2), (3, .int x3), (4, .int x4), (5, .int x5)] [] (by rfl) (fun c => ?_) (fun c => ?_)
            ·
              have c445 : (i 6656).toInt ≠ (0 : Int32).toInt := kd_ne c; clear c
              first | refine ft_go mi_k117 3 57 [(7, .ref 104), (6, .ref 112), (0, .ref 0), (1, .int x1), (2, .int x2), (3, .int x3), (4, .int x4), (5, .int x5)] [.int 2, .int (i 7168)] i a q r (by rfl) ?_ | refine ko_steps mi_in117 3 _ (57, [(7, .ref 104), (6, .ref 112), (0, .ref 0), (1, .int x1), (2, .int x2), (3, .int x3), (4, .int x4), (5, .int x5)], [.int 2, .int (i 7168)], (0, 0), ks i a q r) (by rfl) ?_
              refine ft_if mi_k117 ((i 7168) != 2) 82 60 [(7, .ref 104), (6, .ref 112), (0, .ref 0), (1, .int x1), (2, .int x2), (3, .int x3), (4, .int x4), (5, .int x5)] [] (by rfl) (fun c => ?_) (fun c => ?_)
              ·
                have c446 : (i 7168).toInt ≠ (2 : Int32).toInt := kd_ne c; clear c
                first | refine ft_go mi_k117 1 84 [(7, .ref 104), (6, .ref 112), (0, .ref 0), (1, .int x1), (2, .int x2), (3, .int x3), (4, .int x4), (5, .int x5)] [.int (-12)] i a q r (by rfl) ?_ | refine ko_steps mi_in117 1 _ (84, [(7, .ref 104), (6, .ref 112), (0, .ref 0), (1, .int x1), (2, .int x2), (3, .int x3), (4, .int x4), (5, .int x5)], [.int (-12)], (0, 0), ks i a q r) (by rfl) ?_
                exact ft_ret mi_k117 (by rfl) (hP (-12) _ _ _ _ hG trivial)
              ·
                have c447 : (i 7168).toInt = (2 : Int32).toInt := kd_neF c; clear c
                first | refine ft_go mi_k117 3 66 [(7, .ref 104), (6, .ref 112), (0, .ref 0), (1, .int x1), (2, .int x2), (3, .int x3), (4, .int x4), (5, .int x5)] [.int 2, .int (i 6656)] i a q r (by rfl) ?_ | refine ko_steps mi_in117 3 _ (66, [(7, .ref 104), (6, .ref 112), (0, .ref 0), (1, .int x1), (2, .int x2), (3, .int x3), (4, .int x4), (5, .int x5)], [.int 2, .int (i 6656)], (0, 0), ks i a q r) (by rfl) ?_
                refine ft_if mi_k117 ((i 6656) != 2) 82 69 [(7, .ref 104), (6, .ref 112), (0, .ref 0), (1, .int x1), (2, .int x2), (3, .int x3), (4, .int x4), (5, .int x5)] [] (by rfl) (fun c => ?_) (fun c => ?_)
                ·
                  have c448 : (i 6656).toInt ≠ (2 : Int32).toInt := kd_ne c; clear c
                  first | refine ft_go mi_k117 1 84 [(7, .ref 104), (6, .ref 112), (0, .ref 0), (1, .int x1), (2, .int x2), (3, .int x3), (4, .int x4), (5, .int x5)] [.int (-12)] i a q r (by rfl) ?_ | refine ko_steps mi_in117 1 _ (84, [(7, .ref 104), (6, .ref 112), (0, .ref 0), (1, .int x1), (2, .int x2), (3, .int x3), (4, .int x4), (5, .int x5)], [.int (-12)], (0, 0), ks i a q r) (by rfl) ?_
                  exact ft_ret mi_k117 (by rfl) (hP (-12) _ _ _ _ hG trivial)
                ·
                  have c449 : (i 6656).toInt = (2 : Int32).toInt := kd_neF c; clear c
                  have fi_7170 : ((0 : Int) ≤ (i 7170).toInt) ∧ ((i 7170).toInt ≤ 4) := hG.I.1 7170
                  have fi_6658 : ((0 : Int) ≤ (i 6658).toInt) ∧ ((i 6658).toInt ≤ 4) := hG.I.1 6658
                  first | refine ft_go mi_k117 4 79 [(7, .ref 104), (6, .ref 112), (0, .ref 0), (1, .int x1), (2, .int x2), (3, .int x3), (4, .int x4), (5, .int x5)] [.int (i 6658), .int (i 7170)] i a q r (by rfl) ?_ | refine ko_steps mi_in117 4 _ (79, [(7, .ref 104), (6, .ref 112), (0, .ref 0), (1, .int x1), (2, .int x2), (3, .int x3), (4, .int x4), (5, .int x5)], [.int (i 6658), .int (i 7170)], (0, 0), ks i a q r) (by rfl) ?_
                  refine ft_if mi_k117 ((i 7170) == (i 6658)) 85 82 [(7, .ref 104), (6, .ref 112), (0, .ref 0), (1, .int x1), (2, .int x2), (3, .int x3), (4, .int x4), (5, .int x5)] [] (by rfl) (fun c => ?_) (fun c => ?_)
                  ·
                    have c450 : (i 7170).toInt = (i 6658).toInt := kd_eq c; clear c
                    first | refine ft_go mi_k117 3 90 [(7, .ref 104), (6, .ref 112), (0, .ref 0), (1, .int x1), (2, .int x2), (3, .int x3), (4, .int x4), (5, .int x5)] [.int x5, .int x2, .ref 112] i a q r (by rfl) ?_ | refine ko_steps mi_in117 3 _ (90, [(7, .ref 104), (6, .ref 112), (0, .ref 0), (1, .int x1), (2, .int x2), (3, .int x3), (4, .int x4), (5, .int x5)], [.int x5, .int x2, .ref 112], (0, 0), ks i a q r) (by rfl) ?_
                    refine ko_callPI mi_k117.1 (pc := 90) (ls := [(7, .ref 104), (6, .ref 112), (0, .ref 0), (1, .int x1), (2, .int x2), (3, .int x3), (4, .int x4), (5, .int x5)]) (st := [.int x5, .int x2, .ref 112]) (h := ks i a q r) (i := (.invokevirtual 324, 3, 37, 0, 9, 0, 316)) (mi_k117.2 _ _ (by rfl)) (ft_invS mi_pq37 (by rfl)) (cy := mi_c37) mi_pq37 rfl (kc37_112 hG.I hG.R x2 x5) (by decide) ?_
                    intro vg451 hg451
                    rcases hg451 with ⟨eg451, hg451⟩ | ⟨eg451, hg451⟩
                    ·
                      subst eg451
                      have fi_7171 : ((0 : Int) ≤ (i 7171).toInt) ∧ ((i 7171).toInt ≤ 60) := hG.I.1 7171
                      have z452 : ((0 : Int) ≤ x5.toInt) ∧ (x5.toInt ≤ (i 7171).toInt) ∧ ((0 : Int) ≤ x2.toInt) ∧ ((x2.toInt + x5.toInt) ≤ (i 7171).toInt) := hg451
                      first | refine ft_go mi_k117 4 102 [(7, .ref 104), (6, .ref 112), (0, .ref 0), (1, .int x1), (2, .int x2), (3, .int x3), (4, .int x4), (5, .int x5)] [.int x5, .int x4, .ref 104] i a q r (by rfl) ?_ | refine ko_steps mi_in117 4 _ (102, [(7, .ref 104), (6, .ref 112), (0, .ref 0), (1, .int x1), (2, .int x2), (3, .int x3), (4, .int x4), (5, .int x5)], [.int x5, .int x4, .ref 104], (0, 0), ks i a q r) (by rfl) ?_
                      refine ko_callPI mi_k117.1 (pc := 102) (ls := [(7, .ref 104), (6, .ref 112), (0, .ref 0), (1, .int x1), (2, .int x2), (3, .int x3), (4, .int x4), (5, .int x5)]) (st := [.int x5, .int x4, .ref 104]) (h := ks i a q r) (i := (.invokevirtual 324, 3, 37, 0, 9, 0, 316)) (mi_k117.2 _ _ (by rfl)) (ft_invS mi_pq37 (by rfl)) (cy := mi_c37) mi_pq37 rfl (kc37_104 hG.I hG.R x4 x5) (by decide) ?_
                      intro vg453 hg453
                      rcases hg453 with ⟨eg453, hg453⟩ | ⟨eg453, hg453⟩
                      ·
                        subst eg453
                        have fi_6659 : ((0 : Int) ≤ (i 6659).toInt) ∧ ((i 6659).toInt ≤ 60) := hG.I.1 6659
                        have z454 : ((0 : Int) ≤ x5.toInt) ∧ (x5.toInt ≤ (i 6659).toInt) ∧ ((0 : Int) ≤ x4.toInt) ∧ ((x4.toInt + x5.toInt) ≤ (i 6659).toInt) := hg453
                        first | refine ft_go mi_k117 8 126 [(7, .ref 104), (6, .ref 112), (0, .ref 0), (1, .int x1), (2, .int x2), (3, .int x3), (4, .int x4), (5, .int x5)] [.int x5, .int x4, .ref 105, .int x2, .ref 113] i a q r (by rfl) ?_ | refine ko_steps mi_in117 8 _ (126, [(7, .ref 104), (6, .ref 112), (0, .ref 0), (1, .int x1), (2, .int x2), (3, .int x3), (4, .int x4), (5, .int x5)], [.int x5, .int x4, .ref 105, .int x2, .ref 113], (0, 0), ks i a q r) (by rfl) ?_
                        have hJ455 := kG_q hG 105 rfl (z := mi_cpy (q 113) (q 105) x2.toNatClampNeg x4.toNatClampNeg x5.toNatClampNeg) (kcpy_len2 (n := 60) (c := 60) (m := 60) (b := 60) (sp := x2) (dp := x4) (n1 := x5) (hG.I.2.2.2 113) rfl (hG.I.2.2.2 105) rfl (oz3 z452.1) (oz3 z452.2.2.1) (oz3 z454.2.2.1) (oz1278 fi_7171.2 z452.2.2.2) (oz1278 fi_6659.2 z454.2.2.2))
                        refine ko_copyL2 mi_k117.1 (l := q 113) (g := q 105) (n := 60) (c := 60) (m := 60) (b := 60) (mi_k117.2 _ _ (by rfl)) (by rfl) (by rfl) (by rfl) (by rfl) (by rfl) (hG.I.2.2.2 113) rfl (hG.I.2.2.2 105) rfl (oz3 z452.1) (oz3 z452.2.2.1) (oz3 z454.2.2.1) (oz1278 fi_7171.2 z452.2.2.2) (oz1278 fi_6659.2 z454.2.2.2) (h5 := ks i a (ku q 105 (mi_cpy (q 113) (q 105) x2.toNatClampNeg x4.toNatClampNeg x5.toNatClampNeg)) r) (by rfl) ?_
                        first | refine ft_go mi_k117 1 131 [(7, .ref 104), (6, .ref 112), (0, .ref 0), (1, .int x1), (2, .int x2), (3, .int x3), (4, .int x4), (5, .int x5)] [.int x5] i a (ku q 105 (mi_cpy (q 113) (q 105) x2.toNatClampNeg x4.toNatClampNeg x5.toNatClampNeg)) r (by rfl) ?_ | refine ko_steps mi_in117 1 _ (131, [(7, .ref 104), (6, .ref 112), (0, .ref 0), (1, .int x1), (2, .int x2), (3, .int x3), (4, .int x4), (5, .int x5)], [.int x5], (0, 0), ks i a (ku q 105 (mi_cpy (q 113) (q 105) x2.toNatClampNeg x4.toNatClampNeg x5.toNatClampNeg)) r) (by rfl) ?_
                        exact ft_ret mi_k117 (by rfl) (hP x5 _ _ _ _ hJ455 trivial)
                      ·
                        subst eg453
                        have fi_6659 : ((0 : Int) ≤ (i 6659).toInt) ∧ ((i 6659).toInt ≤ 60) := hG.I.1 6659
                        have z456 : ¬ (((0 : Int) ≤ x5.toInt) ∧ (x5.toInt ≤ (i 6659).toInt) ∧ ((0 : Int) ≤ x4.toInt) ∧ ((x4.toInt + x5.toInt) ≤ (i 6659).toInt)) := hg453
                        first | refine ft_go mi_k117 2 110 [(7, .ref 104), (6, .ref 112), (0, .ref 0), (1, .int x1), (2, .int x2), (3, .int x3), (4, .int x4), (5, .int x5)] [.int (-13)] i a q r (by rfl) ?_ | refine ko_steps mi_in117 2 _ (110, [(7, .ref 104), (6, .ref 112), (0, .ref 0), (1, .int x1), (2, .int x2), (3, .int x3), (4, .int x4), (5, .int x5)], [.int (-13)], (0, 0), ks i a q r) (by rfl) ?_
                        exact ft_ret mi_k117 (by rfl) (hP (-13) _ _ _ _ hG trivial)
                    ·
                      subst eg451
                      have fi_7171 : ((0 : Int) ≤ (i 7171).toInt) ∧ ((i 7171).toInt ≤ 60) := hG.I.1 7171
                      have z457 : ¬ (((0 : Int) ≤ x5.toInt) ∧ (x5.toInt ≤ (i 7171).toInt) ∧ ((0 : Int) ≤ x2.toInt) ∧ ((x2.toInt + x5.toInt) ≤ (i 7171).toInt)) := hg451
                      first | refine ft_go mi_k117 2 110 [(7, .ref 104), (6, .ref 112), (0, .ref 0), (1, .int x1), (2, .int x2), (3, .int x3), (4, .int x4), (5, .int x5)] [.int (-13)] i a q r (by rfl) ?_ | refine ko_steps mi_in117 2 _ (110, [(7, .ref 104), (6, .ref 112), (0, .ref 0), (1, .int x1), (2, .int x2), (3, .int x3), (4, .int x4), (5, .int x5)], [.int (-13)], (0, 0), ks i a q r) (by rfl) ?_
                      exact ft_ret mi_k117 (by rfl) (hP (-13) _ _ _ _ hG trivial)
                  ·
                    have c458 : (i 7170).toInt ≠ (i 6658).toInt := kd_eqF c; clear c
                    first | refine ft_go mi_k117 1 84 [(7, .ref 104), (6, .ref 112), (0, .ref 0), (1, .int x1), (2, .int x2), (3, .int x3), (4, .int x4), (5, .int x5)] [.int (-12)] i a q r (by rfl) ?_ | refine ko_steps mi_in117 1 _ (84, [(7, .ref 104), (6, .ref 112), (0, .ref 0), (1, .int x1), (2, .int x2), (3, .int x3), (4, .int x4), (5, .int x5)], [.int (-12)], (0, 0), ks i a q r) (by rfl) ?_
                    exact ft_ret mi_k117 (by rfl) (hP (-12) _ _ _ _ hG trivial)
            ·
              have c459 : (i 6656).toInt = (0 : Int32).toInt := kd_neF c; clear c
              first | refine ft_go mi_k117 1 50 [(7, .ref 104), (6, .ref 112), (0, .ref 0), (1, .int x1), (2, .int x2), (3, .int x3), (4, .int x4), (5, .int x5)] [.int (-11)] i a q r (by rfl) ?_ | refine ko_steps mi_in117 1 _ (50, [(7, .ref 104), (6, .ref 112), (0, .ref 0), (1, .int x1), (2, .int x2), (3, .int x3), (4, .int x4), (5, .int x5)], [.int (-11)], (0, 0), ks i a q r) (by rfl) ?_
              exact ft_ret mi_k117 (by rfl) (hP (-11) _ _ _ _ hG trivial)
        by_cases w460 : x3.toInt = 1
        ·
          refine ko_eq (x1 := (29, [(6, .ref 112), (0, .ref 0), (1, .int x1), (2, .int x2), (3, .int x3), (4, .int x4), (5, .int x5)], [.int 1, .ref 97], (0, 0), ks i a q r)) (by rw [(kj_eq w460 (by decide) : x3 = 1)]) ?_
          have fi_7168 : ((0 : Int) ≤ (i 7168).toInt) ∧ ((i 7168).toInt ≤ 2) := hG.I.1 7168
          first | refine ft_go mi_k117 4 37 [(7, .ref 106), (6, .ref 112), (0, .ref 0), (1, .int x1), (2, .int x2), (3, .int x3), (4, .int x4), (5, .int x5)] [.int (i 7168)] i a q r (by rfl) ?_ | refine ko_steps mi_in117 4 _ (37, [(7, .ref 106), (6, .ref 112), (0, .ref 0), (1, .int x1), (2, .int x2), (3, .int x3), (4, .int x4), (5, .int x5)], [.int (i 7168)], (0, 0), ks i a q r) (by rfl) ?_
          refine ft_if mi_k117 ((i 7168) == 0) 48 40 [(7, .ref 106), (6, .ref 112), (0, .ref 0), (1, .int x1), (2, .int x2), (3, .int x3), (4, .int x4), (5, .int x5)] [] (by rfl) (fun c => ?_) (fun c => ?_)
          ·
            have c461 : (i 7168).toInt = (0 : Int32).toInt := kd_eq c; clear c
            first | refine ft_go mi_k117 1 50 [(7, .ref 106), (6, .ref 112), (0, .ref 0), (1, .int x1), (2, .int x2), (3, .int x3), (4, .int x4), (5, .int x5)] [.int (-11)] i a q r (by rfl) ?_ | refine ko_steps mi_in117 1 _ (50, [(7, .ref 106), (6, .ref 112), (0, .ref 0), (1, .int x1), (2, .int x2), (3, .int x3), (4, .int x4), (5, .int x5)], [.int (-11)], (0, 0), ks i a q r) (by rfl) ?_
            exact ft_ret mi_k117 (by rfl) (hP (-11) _ _ _ _ hG trivial)
          ·
            have c462 : (i 7168).toInt ≠ (0 : Int32).toInt := kd_eqF c; clear c
            have fi_6784 : ((0 : Int) ≤ (i 6784).toInt) ∧ ((i 6784).toInt ≤ 2) := hG.I.1 6784
            first | refine ft_go mi_k117 2 45 [(7, .ref 106), (6, .ref 112), (0, .ref 0), (1, .int x1), (2, .int x2), (3, .int x3), (4, .int x4), (5, .int x5)] [.int (i 6784)] i a q r (by rfl) ?_ | refine ko_steps mi_in117 2 _ (45, [(7, .ref 106), (6, .ref 112), (0, .ref 0), (1, .int x1), (2, .int x2), (3, .int x3), (4, .int x4), (5, .int x5)], [.int (i 6784)], (0, 0), ks i a q r) (by rfl) ?_
            refine ft_if mi_k117 ((i 6784) != 0) 51 48 [(7, .ref 106), (6, .ref 112), (0, .ref 0), (1, .int x1), (2, .int x2), (3, .int x3), (4, .int x4), (5, .int x5)] [] (by rfl) (fun c => ?_) (fun c => ?_)
            ·
              have c463 : (i 6784).toInt ≠ (0 : Int32).toInt := kd_ne c; clear c
              first | refine ft_go mi_k117 3 57 [(7, .ref 106), (6, .ref 112), (0, .ref 0), (1, .int x1), (2, .int x2), (3, .int x3), (4, .int x4), (5, .int x5)] [.int 2, .int (i 7168)] i a q r (by rfl) ?_ | refine ko_steps mi_in117 3 _ (57, [(7, .ref 106), (6, .ref 112), (0, .ref 0), (1, .int x1), (2, .int x2), (3, .int x3), (4, .int x4), (5, .int x5)], [.int 2, .int (i 7168)], (0, 0), ks i a q r) (by rfl) ?_
              refine ft_if mi_k117 ((i 7168) != 2) 82 60 [(7, .ref 106), (6, .ref 112), (0, .ref 0), (1, .int x1), (2, .int x2), (3, .int x3), (4, .int x4), (5, .int x5)] [] (by rfl) (fun c => ?_) (fun c => ?_)
              ·
                have c464 : (i 7168).toInt ≠ (2 : Int32).toInt := kd_ne c; clear c
                first | refine ft_go mi_k117 1 84 [(7, .ref 106), (6, .ref 112), (0, .ref 0), (1, .int x1), (2, .int x2), (3, .int x3), (4, .int x4), (5, .int x5)] [.int (-12)] i a q r (by rfl) ?_ | refine ko_steps mi_in117 1 _ (84, [(7, .ref 106), (6, .ref 112), (0, .ref 0), (1, .int x1), (2, .int x2), (3, .int x3), (4, .int x4), (5, .int x5)], [.int (-12)], (0, 0), ks i a q r) (by rfl) ?_
                exact ft_ret mi_k117 (by rfl) (hP (-12) _ _ _ _ hG trivial)
              ·
                have c465 : (i 7168).toInt = (2 : Int32).toInt := kd_neF c; clear c
                first | refine ft_go mi_k117 3 66 [(7, .ref 106), (6, .ref 112), (0, .ref 0), (1, .int x1), (2, .int x2), (3, .int x3), (4, .int x4), (5, .int x5)] [.int 2, .int (i 6784)] i a q r (by rfl) ?_ | refine ko_steps mi_in117 3 _ (66, [(7, .ref 106), (6, .ref 112), (0, .ref 0), (1, .int x1), (2, .int x2), (3, .int x3), (4, .int x4), (5, .int x5)], [.int 2, .int (i 6784)], (0, 0), ks i a q r) (by rfl) ?_
                refine ft_if mi_k117 ((i 6784) != 2) 82 69 [(7, .ref 106), (6, .ref 112), (0, .ref 0), (1, .int x1), (2, .int x2), (3, .int x3), (4, .int x4), (5, .int x5)] [] (by rfl) (fun c => ?_) (fun c => ?_)
                ·
                  have c466 : (i 6784).toInt ≠ (2 : Int32).toInt := kd_ne c; clear c
                  first | refine ft_go mi_k117 1 84 [(7, .ref 106), (6, .ref 112), (0, .ref 0), (1, .int x1), (2, .int x2), (3, .int x3), (4, .int x4), (5, .int x5)] [.int (-12)] i a q r (by rfl) ?_ | refine ko_steps mi_in117 1 _ (84, [(7, .ref 106), (6, .ref 112), (0, .ref 0), (1, .int x1), (2, .int x2), (3, .int x3), (4, .int x4), (5, .int x5)], [.int (-12)], (0, 0), ks i a q r) (by rfl) ?_
                  exact ft_ret mi_k117 (by rfl) (hP (-12) _ _ _ _ hG trivial)
                ·
                  have c467 : (i 6784).toInt = (2 : Int32).toInt := kd_neF c; clear c
                  have fi_7170 : ((0 : Int) ≤ (i 7170).toInt) ∧ ((i 7170).toInt ≤ 4) := hG.I.1 7170
                  have fi_6786 : ((0 : Int) ≤ (i 6786).toInt) ∧ ((i 6786).toInt ≤ 4) := hG.I.1 6786
                  first | refine ft_go mi_k117 4 79 [(7, .ref 106), (6, .ref 112), (0, .ref 0), (1, .int x1), (2, .int x2), (3, .int x3), (4, .int x4), (5, .int x5)] [.int (i 6786), .int (i 7170)] i a q r (by rfl) ?_ | refine ko_steps mi_in117 4 _ (79, [(7, .ref 106), (6, .ref 112), (0, .ref 0), (1, .int x1), (2, .int x2), (3, .int x3), (4, .int x4), (5, .int x5)], [.int (i 6786), .int (i 7170)], (0, 0), ks i a q r) (by rfl) ?_
                  refine ft_if mi_k117 ((i 7170) == (i 6786)) 85 82 [(7, .ref 106), (6, .ref 112), (0, .ref 0), (1, .int x1), (2, .int x2), (3, .int x3), (4, .int x4), (5, .int x5)] [] (by rfl) (fun c => ?_) (fun c => ?_)
                  ·
                    have c468 : (i 7170).toInt = (i 6786).toInt := kd_eq c; clear c
                    first | refine ft_go mi_k117 3 90 [(7, .ref 106), (6, .ref 112), (0, .ref 0), (1, .int x1), (2, .int x2), (3, .int x3), (4, .int x4), (5, .int x5)] [.int x5, .int x2, .ref 112] i a q r (by rfl) ?_ | refine ko_steps mi_in117 3 _ (90, [(7, .ref 106), (6, .ref 112), (0, .ref 0), (1, .int x1), (2, .int x2), (3, .int x3), (4, .int x4), (5, .int x5)], [.int x5, .int x2, .ref 112], (0, 0), ks i a q r) (by rfl) ?_
                    refine ko_callPI mi_k117.1 (pc := 90) (ls := [(7, .ref 106), (6, .ref 112), (0, .ref 0), (1, .int x1), (2, .int x2), (3, .int x3), (4, .int x4), (5, .int x5)]) (st := [.int x5, .int x2, .ref 112]) (h := ks i a q r) (i := (.invokevirtual 324, 3, 37, 0, 9, 0, 316)) (mi_k117.2 _ _ (by rfl)) (ft_invS mi_pq37 (by rfl)) (cy := mi_c37) mi_pq37 rfl (kc37_112 hG.I hG.R x2 x5) (by decide) ?_
                    intro vg469 hg469
                    rcases hg469 with ⟨eg469, hg469⟩ | ⟨eg469, hg469⟩
                    ·
                      subst eg469
                      have fi_7171 : ((0 : Int) ≤ (i 7171).toInt) ∧ ((i 7171).toInt ≤ 60) := hG.I.1 7171
                      have z470 : ((0 : Int) ≤ x5.toInt) ∧ (x5.toInt ≤ (i 7171).toInt) ∧ ((0 : Int) ≤ x2.toInt) ∧ ((x2.toInt + x5.toInt) ≤ (i 7171).toInt) := hg469
                      first | refine ft_go mi_k117 4 102 [(7, .ref 106), (6, .ref 112), (0, .ref 0), (1, .int x1), (2, .int x2), (3, .int x3), (4, .int x4), (5, .int x5)] [.int x5, .int x4, .ref 106] i a q r (by rfl) ?_ | refine ko_steps mi_in117 4 _ (102, [(7, .ref 106), (6, .ref 112), (0, .ref 0), (1, .int x1), (2, .int x2), (3, .int x3), (4, .int x4), (5, .int x5)], [.int x5, .int x4, .ref 106], (0, 0), ks i a q r) (by rfl) ?_
                      refine ko_callPI mi_k117.1 (pc := 102) (ls := [(7, .ref 106), (6, .ref 112), (0, .ref 0), (1, .int x1), (2, .int x2), (3, .int x3), (4, .int x4), (5, .int x5)]) (st := [.int x5, .int x4, .ref 106]) (h := ks i a q r) (i := (.invokevirtual 324, 3, 37, 0, 9, 0, 316)) (mi_k117.2 _ _ (by rfl)) (ft_invS mi_pq37 (by rfl)) (cy := mi_c37) mi_pq37 rfl (kc37_106 hG.I hG.R x4 x5) (by decide) ?_
                      intro vg471 hg471
                      rcases hg471 with ⟨eg471, hg471⟩ | ⟨eg471, hg471⟩
                      ·
                        subst eg471
                        have fi_6787 : ((0 : Int) ≤ (i 6787).toInt) ∧ ((i 6787).toInt ≤ 60) := hG.I.1 6787
                        have z472 : ((0 : Int) ≤ x5.toInt) ∧ (x5.toInt ≤ (i 6787).toInt) ∧ ((0 : Int) ≤ x4.toInt) ∧ ((x4.toInt + x5.toInt) ≤ (i 6787).toInt) := hg471
                        first | refine ft_go mi_k117 8 126 [(7, .ref 106), (6, .ref 112), (0, .ref 0), (1, .int x1), (2, .int x2), (3, .int x3), (4, .int x4), (5, .int x5)] [.int x5, .int x4, .ref 107, .int x2, .ref 113] i a q r (by rfl) ?_ | refine ko_steps mi_in117 8 _ (126, [(7, .ref 106), (6, .ref 112), (0, .ref 0), (1, .int x1), (2, .int x2), (3, .int x3), (4, .int x4), (5, .int x5)], [.int x5, .int x4, .ref 107, .int x2, .ref 113], (0, 0), ks i a q r) (by rfl) ?_
                        have hJ473 := kG_q hG 107 rfl (z := mi_cpy (q 113) (q 107) x2.toNatClampNeg x4.toNatClampNeg x5.toNatClampNeg) (kcpy_len2 (n := 60) (c := 60) (m := 60) (b := 60) (sp := x2) (dp := x4) (n1 := x5) (hG.I.2.2.2 113) rfl (hG.I.2.2.2 107) rfl (oz3 z470.1) (oz3 z470.2.2.1) (oz3 z472.2.2.1) (oz1278 fi_7171.2 z470.2.2.2) (oz1278 fi_6787.2 z472.2.2.2))
                        refine ko_copyL2 mi_k117.1 (l := q 113) (g := q 107) (n := 60) (c := 60) (m := 60) (b := 60) (mi_k117.2 _ _ (by rfl)) (by rfl) (by rfl) (by rfl) (by rfl) (by rfl) (hG.I.2.2.2 113) rfl (hG.I.2.2.2 107) rfl (oz3 z470.1) (oz3 z470.2.2.1) (oz3 z472.2.2.1) (oz1278 fi_7171.2 z470.2.2.2) (oz1278 fi_6787.2 z472.2.2.2) (h5 := ks i a (ku q 107 (mi_cpy (q 113) (q 107) x2.toNatClampNeg x4.toNatClampNeg x5.toNatClampNeg)) r) (by rfl) ?_
                        first | refine ft_go mi_k117 1 131 [(7, .ref 106), (6, .ref 112), (0, .ref 0), (1, .int x1), (2, .int x2), (3, .int x3), (4, .int x4), (5, .int x5)] [.int x5] i a (ku q 107 (mi_cpy (q 113) (q 107) x2.toNatClampNeg x4.toNatClampNeg x5.toNatClampNeg)) r (by rfl) ?_ | refine ko_steps mi_in117 1 _ (131, [(7, .ref 106), (6, .ref 112), (0, .ref 0), (1, .int x1), (2, .int x2), (3, .int x3), (4, .int x4), (5, .int x5)], [.int x5], (0, 0), ks i a (ku q 107 (mi_cpy (q 113) (q 107) x2.toNatClampNeg x4.toNatClampNeg x5.toNatClampNeg)) r) (by rfl) ?_
                        exact ft_ret mi_k117 (by rfl) (hP x5 _ _ _ _ hJ473 trivial)
                      ·
                        subst eg471
                        have fi_6787 : ((0 : Int) ≤ (i 6787).toInt) ∧ ((i 6787).toInt ≤ 60) := hG.I.1 6787
                        have z474 : ¬ (((0 : Int) ≤ x5.toInt) ∧ (x5.toInt ≤ (i 6787).toInt) ∧ ((0 : Int) ≤ x4.toInt) ∧ ((x4.toInt + x5.toInt) ≤ (i 6787).toInt)) := hg471
                        first | refine ft_go mi_k117 2 110 [(7, .ref 106), (6, .ref 112), (0, .ref 0), (1, .int x1), (2, .int x2), (3, .int x3), (4, .int x4), (5, .int x5)] [.int (-13)] i a q r (by rfl) ?_ | refine ko_steps mi_in117 2 _ (110, [(7, .ref 106), (6, .ref 112), (0, .ref 0), (1, .int x1), (2, .int x2), (3, .int x3), (4, .int x4), (5, .int x5)], [.int (-13)], (0, 0), ks i a q r) (by rfl) ?_
                        exact ft_ret mi_k117 (by rfl) (hP (-13) _ _ _ _ hG trivial)
                    ·
                      subst eg469
                      have fi_7171 : ((0 : Int) ≤ (i 7171).toInt) ∧ ((i 7171).toInt ≤ 60) := hG.I.1 7171
                      have z475 : ¬ (((0 : Int) ≤ x5.toInt) ∧ (x5.toInt ≤ (i 7171).toInt) ∧ ((0 : Int) ≤ x2.toInt) ∧ ((x2.toInt + x5.toInt) ≤ (i 7171).toInt)) := hg469
                      first | refine ft_go mi_k117 2 110 [(7, .ref 106), (6, .ref 112), (0, .ref 0), (1, .int x1), (2, .int x2), (3, .int x3), (4, .int x4), (5, .int x5)] [.int (-13)] i a q r (by rfl) ?_ | refine ko_steps mi_in117 2 _ (110, [(7, .ref 106), (6, .ref 112), (0, .ref 0), (1, .int x1), (2, .int x2), (3, .int x3), (4, .int x4), (5, .int x5)], [.int (-13)], (0, 0), ks i a q r) (by rfl) ?_
                      exact ft_ret mi_k117 (by rfl) (hP (-13) _ _ _ _ hG trivial)
                  ·
                    have c476 : (i 7170).toInt ≠ (i 6786).toInt := kd_eqF c; clear c
                    first | refine ft_go mi_k117 1 84 [(7, .ref 106), (6, .ref 112), (0, .ref 0), (1, .int x1), (2, .int x2), (3, .int x3), (4, .int x4), (5, .int x5)] [.int (-12)] i a q r (by rfl) ?_ | refine ko_steps mi_in117 1 _ (84, [(7, .ref 106), (6, .ref 112), (0, .ref 0), (1, .int x1), (2, .int x2), (3, .int x3), (4, .int x4), (5, .int x5)], [.int (-12)], (0, 0), ks i a q r) (by rfl) ?_
                    exact ft_ret mi_k117 (by rfl) (hP (-12) _ _ _ _ hG trivial)
            ·
              have c477 : (i 6784).toInt = (0 : Int32).toInt := kd_neF c; clear c
              first | refine ft_go mi_k117 1 50 [(7, .ref 106), (6, .ref 112), (0, .ref 0), (1, .int x1), (2, .int x2), (3, .int x3), (4, .int x4), (5, .int x5)] [.int (-11)] i a q r (by rfl) ?_ | refine ko_steps mi_in117 1 _ (50, [(7, .ref 106), (6, .ref 112), (0, .ref 0), (1, .int x1), (2, .int x2), (3, .int x3), (4, .int x4), (5, .int x5)], [.int (-11)], (0, 0), ks i a q r) (by rfl) ?_
              exact ft_ret mi_k117 (by rfl) (hP (-11) _ _ _ _ hG trivial)
        by_cases w478 : x3.toInt = 2
        ·
          refine ko_eq (x1 := (29, [(6, .ref 112), (0, .ref 0), (1, .int x1), (2, .int x2), (3, .int x3), (4, .int x4), (5, .int x5)], [.int 2, .ref 97], (0, 0), ks i a q r)) (by rw [(kj_eq w478 (by decide) : x3 = 2)]) ?_
          have fi_7168 : ((0 : Int) ≤ (i 7168).toInt) ∧ ((i 7168).toInt ≤ 2) := hG.I.1 7168
          first | refine ft_go mi_k117 4 37 [(7, .ref 108), (6, .ref 112), (0, .ref 0), (1, .int x1), (2, .int x2), (3, .int x3), (4, .int x4), (5, .int x5)] [.int (i 7168)] i a q r (by rfl) ?_ | refine ko_steps mi_in117 4 _ (37, [(7, .ref 108), (6, .ref 112), (0, .ref 0), (1, .int x1), (2, .int x2), (3, .int x3), (4, .int x4), (5, .int x5)], [.int (i 7168)], (0, 0), ks i a q r) (by rfl) ?_
          refine ft_if mi_k117 ((i 7168) == 0) 48 40 [(7, .ref 108), (6, .ref 112), (0, .ref 0), (1, .int x1), (2, .int x2), (3, .int x3), (4, .int x4), (5, .int x5)] [] (by rfl) (fun c => ?_) (fun c => ?_)
          ·
            have c479 : (i 7168).toInt = (0 : Int32).toInt := kd_eq c; clear c
            first | refine ft_go mi_k117 1 50 [(7, .ref 108), (6, .ref 112), (0, .ref 0), (1, .int x1), (2, .int x2), (3, .int x3), (4, .int x4), (5, .int x5)] [.int (-11)] i a q r (by rfl) ?_ | refine ko_steps mi_in117 1 _ (50, [(7, .ref 108), (6, .ref 112), (0, .ref 0), (1, .int x1), (2, .int x2), (3, .int x3), (4, .int x4), (5, .int x5)], [.int (-11)], (0, 0), ks i a q r) (by rfl) ?_
            exact ft_ret mi_k117 (by rfl) (hP (-11) _ _ _ _ hG trivial)
          ·
            have c480 : (i 7168).toInt ≠ (0 : Int32).toInt := kd_eqF c; clear c
            have fi_6912 : ((0 : Int) ≤ (i 6912).toInt) ∧ ((i 6912).toInt ≤ 2) := hG.I.1 6912
            first | refine ft_go mi_k117 2 45 [(7, .ref 108), (6, .ref 112), (0, .ref 0), (1, .int x1), (2, .int x2), (3, .int x3), (4, .int x4), (5, .int x5)] [.int (i 6912)] i a q r (by rfl) ?_ | refine ko_steps mi_in117 2 _ (45, [(7, .ref 108), (6, .ref 112), (0, .ref 0), (1, .int x1), (2, .int x2), (3, .int x3), (4, .int x4), (5, .int x5)], [.int (i 6912)], (0, 0), ks i a q r) (by rfl) ?_
            refine ft_if mi_k117 ((i 6912) != 0) 51 48 [(7, .ref 108), (6, .ref 112), (0, .ref 0), (1, .int x1), (2, .int x2), (3, .int x3), (4, .int x4), (5, .int x5)] [] (by rfl) (fun c => ?_) (fun c => ?_)
            ·
              have c481 : (i 6912).toInt ≠ (0 : Int32).toInt := kd_ne c; clear c
              first | refine ft_go mi_k117 3 57 [(7, .ref 108), (6, .ref 112), (0, .ref 0), (1, .int x1), (2, .int x2), (3, .int x3), (4, .int x4), (5, .int x5)] [.int 2, .int (i 7168)] i a q r (by rfl) ?_ | refine ko_steps mi_in117 3 _ (57, [(7, .ref 108), (6, .ref 112), (0, .ref 0), (1, .int x1), (2, .int x2), (3, .int x3), (4, .int x4), (5, .int x5)], [.int 2, .int (i 7168)], (0, 0), ks i a q r) (by rfl) ?_
              refine ft_if mi_k117 ((i 7168) != 2) 82 60 [(7, .ref 108), (6, .ref 112), (0, .ref 0), (1, .int x1), (2, .int x2), (3, .int x3), (4, .int x4), (5, .int x5)] [] (by rfl) (fun c => ?_) (fun c => ?_)
              ·
                have c482 : (i 7168).toInt ≠ (2 : Int32).toInt := kd_ne c; clear c
                first | refine ft_go mi_k117 1 84 [(7, .ref 108), (6, .ref 112), (0, .ref 0), (1, .int x1), (2, .int x2), (3, .int x3), (4, .int x4), (5, .int x5)] [.int (-12)] i a q r (by rfl) ?_ | refine ko_steps mi_in117 1 _ (84, [(7, .ref 108), (6, .ref 112), (0, .ref 0), (1, .int x1), (2, .int x2), (3, .int x3), (4, .int x4), (5, .int x5)], [.int (-12)], (0, 0), ks i a q r) (by rfl) ?_
                exact ft_ret mi_k117 (by rfl) (hP (-12) _ _ _ _ hG trivial)
              ·
                have c483 : (i 7168).toInt = (2 : Int32).toInt := kd_neF c; clear c
                first | refine ft_go mi_k117 3 66 [(7, .ref 108), (6, .ref 112), (0, .ref 0), (1, .int x1), (2, .int x2), (3, .int x3), (4, .int x4), (5, .int x5)] [.int 2, .int (i 6912)] i a q r (by rfl) ?_ | refine ko_steps mi_in117 3 _ (66, [(7, .ref 108), (6, .ref 112), (0, .ref 0), (1, .int x1), (2, .int x2), (3, .int x3), (4, .int x4), (5, .int x5)], [.int 2, .int (i 6912)], (0, 0), ks i a q r) (by rfl) ?_
                refine ft_if mi_k117 ((i 6912) != 2) 82 69 [(7, .ref 108), (6, .ref 112), (0, .ref 0), (1, .int x1), (2, .int x2), (3, .int x3), (4, .int x4), (5, .int x5)] [] (by rfl) (fun c => ?_) (fun c => ?_)
                ·
                  have c484 : (i 6912).toInt ≠ (2 : Int32).toInt := kd_ne c; clear c
                  first | refine ft_go mi_k117 1 84 [(7, .ref 108), (6, .ref 112), (0, .ref 0), (1, .int x1), (2, .int x2), (3, .int x3), (4, .int x4), (5, .int x5)] [.int (-12)] i a q r (by rfl) ?_ | refine ko_steps mi_in117 1 _ (84, [(7, .ref 108), (6, .ref 112), (0, .ref 0), (1, .int x1), (2, .int x2), (3, .int x3), (4, .int x4), (5, .int x5)], [.int (-12)], (0, 0), ks i a q r) (by rfl) ?_
                  exact ft_ret mi_k117 (by rfl) (hP (-12) _ _ _ _ hG trivial)
                ·
                  have c485 : (i 6912).toInt = (2 : Int32).toInt := kd_neF c; clear c
                  have fi_7170 : ((0 : Int) ≤ (i 7170).toInt) ∧ ((i 7170).toInt ≤ 4) := hG.I.1 7170
                  have fi_6914 : ((0 : Int) ≤ (i 6914).toInt) ∧ ((i 6914).toInt ≤ 4) := hG.I.1 6914
                  first | refine ft_go mi_k117 4 79 [(7, .ref 108), (6, .ref 112), (0, .ref 0), (1, .int x1), (2, .int x2), (3, .int x3), (4, .int x4), (5, .int x5)] [.int (i 6914), .int (i 7170)] i a q r (by rfl) ?_ | refine ko_steps mi_in117 4 _ (79, [(7, .ref 108), (6, .ref 112), (0, .ref 0), (1, .int x1), (2, .int x2), (3, .int x3), (4, .int x4), (5, .int x5)], [.int (i 6914), .int (i 7170)], (0, 0), ks i a q r) (by rfl) ?_
                  refine ft_if mi_k117 ((i 7170) == (i 6914)) 85 82 [(7, .ref 108), (6, .ref 112), (0, .ref 0), (1, .int x1), (2, .int x2), (3, .int x3), (4, .int x4), (5, .int x5)] [] (by rfl) (fun c => ?_) (fun c => ?_)
                  ·
                    have c486 : (i 7170).toInt = (i 6914).toInt := kd_eq c; clear c
                    first | refine ft_go mi_k117 3 90 [(7, .ref 108), (6, .ref 112), (0, .ref 0), (1, .int x1), (2, .int x2), (3, .int x3), (4, .int x4), (5, .int x5)] [.int x5, .int x2, .ref 112] i a q r (by rfl) ?_ | refine ko_steps mi_in117 3 _ (90, [(7, .ref 108), (6, .ref 112), (0, .ref 0), (1, .int x1), (2, .int x2), (3, .int x3), (4, .int x4), (5, .int x5)], [.int x5, .int x2, .ref 112], (0, 0), ks i a q r) (by rfl) ?_
                    refine ko_callPI mi_k117.1 (pc := 90) (ls := [(7, .ref 108), (6, .ref 112), (0, .ref 0), (1, .int x1), (2, .int x2), (3, .int x3), (4, .int x4), (5, .int x5)]) (st := [.int x5, .int x2, .ref 112]) (h := ks i a q r) (i := (.invokevirtual 324, 3, 37, 0, 9, 0, 316)) (mi_k117.2 _ _ (by rfl)) (ft_invS mi_pq37 (by rfl)) (cy := mi_c37) mi_pq37 rfl (kc37_112 hG.I hG.R x2 x5) (by decide) ?_
                    intro vg487 hg487
                    rcases hg487 with ⟨eg487, hg487⟩ | ⟨eg487, hg487⟩
                    ·
                      subst eg487
                      have fi_7171 : ((0 : Int) ≤ (i 7171).toInt) ∧ ((i 7171).toInt ≤ 60) := hG.I.1 7171
                      have z488 : ((0 : Int) ≤ x5.toInt) ∧ (x5.toInt ≤ (i 7171).toInt) ∧ ((0 : Int) ≤ x2.toInt) ∧ ((x2.toInt + x5.toInt) ≤ (i 7171).toInt) := hg487
                      first | refine ft_go mi_k117 4 102 [(7, .ref 108), (6, .ref 112), (0, .ref 0), (1, .int x1), (2, .int x2), (3, .int x3), (4, .int x4), (5, .int x5)] [.int x5, .int x4, .ref 108] i a q r (by rfl) ?_ | refine ko_steps mi_in117 4 _ (102, [(7, .ref 108), (6, .ref 112), (0, .ref 0), (1, .int x1), (2, .int x2), (3, .int x3), (4, .int x4), (5, .int x5)], [.int x5, .int x4, .ref 108], (0, 0), ks i a q r) (by rfl) ?_
                      refine ko_callPI mi_k117.1 (pc := 102) (ls := [(7, .ref 108), (6, .ref 112), (0, .ref 0), (1, .int x1), (2, .int x2), (3, .int x3), (4, .int x4), (5, .int x5)]) (st := [.int x5, .int x4, .ref 108]) (h := ks i a q r) (i := (.invokevirtual 324, 3, 37, 0, 9, 0, 316)) (mi_k117.2 _ _ (by rfl)) (ft_invS mi_pq37 (by rfl)) (cy := mi_c37) mi_pq37 rfl (kc37_108 hG.I hG.R x4 x5) (by decide) ?_
                      intro vg489 hg489
                      rcases hg489 with ⟨eg489, hg489⟩ | ⟨eg489, hg489⟩
                      ·
                        subst eg489
                        have fi_6915 : ((0 : Int) ≤ (i 6915).toInt) ∧ ((i 6915).toInt ≤ 60) := hG.I.1 6915
                        have z490 : ((0 : Int) ≤ x5.toInt) ∧ (x5.toInt ≤ (i 6915).toInt) ∧ ((0 : Int) ≤ x4.toInt) ∧ ((x4.toInt + x5.toInt) ≤ (i 6915).toInt) := hg489
                        first | refine ft_go mi_k117 8 126 [(7, .ref 108), (6, .ref 112), (0, .ref 0), (1, .int x1), (2, .int x2), (3, .int x3), (4, .int x4), (5, .int x5)] [.int x5, .int x4, .ref 109, .int x2, .ref 113] i a q r (by rfl) ?_ | refine ko_steps mi_in117 8 _ (126, [(7, .ref 108), (6, .ref 112), (0, .ref 0), (1, .int x1), (2, .int x2), (3, .int x3), (4, .int x4), (5, .int x5)], [.int x5, .int x4, .ref 109, .int x2, .ref 113], (0, 0), ks i a q r) (by rfl) ?_
                        have hJ491 := kG_q hG 109 rfl (z := mi_cpy (q 113) (q 109) x2.toNatClampNeg x4.toNatClampNeg x5.toNatClampNeg) (kcpy_len2 (n := 60) (c := 60) (m := 60) (b := 60) (sp := x2) (dp := x4) (n1 := x5) (hG.I.2.2.2 113) rfl (hG.I.2.2.2 109) rfl (oz3 z488.1) (oz3 z488.2.2.1) (oz3 z490.2.2.1) (oz1278 fi_7171.2 z488.2.2.2) (oz1278 fi_6915.2 z490.2.2.2))
                        refine ko_copyL2 mi_k117.1 (l := q 113) (g := q 109) (n := 60) (c := 60) (m := 60) (b := 60) (mi_k117.2 _ _ (by rfl)) (by rfl) (by rfl) (by rfl) (by rfl) (by rfl) (hG.I.2.2.2 113) rfl (hG.I.2.2.2 109) rfl (oz3 z488.1) (oz3 z488.2.2.1) (oz3 z490.2.2.1) (oz1278 fi_7171.2 z488.2.2.2) (oz1278 fi_6915.2 z490.2.2.2) (h5 := ks i a (ku q 109 (mi_cpy (q 113) (q 109) x2.toNatClampNeg x4.toNatClampNeg x5.toNatClampNeg)) r) (by rfl) ?_
                        first | refine ft_go mi_k117 1 131 [(7, .ref 108), (6, .ref 112), (0, .ref 0), (1, .int x1), (2, .int x2), (3, .int x3), (4, .int x4), (5, .int x5)] [.int x5] i a (ku q 109 (mi_cpy (q 113) (q 109) x2.toNatClampNeg x4.toNatClampNeg x5.toNatClampNeg)) r (by rfl) ?_ | refine ko_steps mi_in117 1 _ (131, [(7, .ref 108), (6, .ref 112), (0, .ref 0), (1, .int x1), (2, .int x2), (3, .int x3), (4, .int x4), (5, .int x5)], [.int x5], (0, 0), ks i a (ku q 109 (mi_cpy (q 113) (q 109) x2.toNatClampNeg x4.toNatClampNeg x5.toNatClampNeg)) r) (by rfl) ?_
                        exact ft_ret mi_k117 (by rfl) (hP x5 _ _ _ _ hJ491 trivial)
                      ·
                        subst eg489
                        have fi_6915 : ((0 : Int) ≤ (i 6915).toInt) ∧ ((i 6915).toInt ≤ 60) := hG.I.1 6915
                        have z492 : ¬ (((0 : Int) ≤ x5.toInt) ∧ (x5.toInt ≤ (i 6915).toInt) ∧ ((0 : Int) ≤ x4.toInt) ∧ ((x4.toInt + x5.toInt) ≤ (i 6915).toInt)) := hg489
                        first | refine ft_go mi_k117 2 110 [(7, .ref 108), (6, .ref 112), (0, .ref 0), (1, .int x1), (2, .int x2), (3, .int x3), (4, .int x4), (5, .int x5)] [.int (-13)] i a q r (by rfl) ?_ | refine ko_steps mi_in117 2 _ (110, [(7, .ref 108), (6, .ref 112), (0, .ref 0), (1, .int x1), (2, .int x2), (3, .int x3), (4, .int x4), (5, .int x5)], [.int (-13)], (0, 0), ks i a q r) (by rfl) ?_
                        exact ft_ret mi_k117 (by rfl) (hP (-13) _ _ _ _ hG trivial)
                    ·
                      subst eg487
                      have fi_7171 : ((0 : Int) ≤ (i 7171).toInt) ∧ ((i 7171).toInt ≤ 60) := hG.I.1 7171
                      have z493 : ¬ (((0 : Int) ≤ x5.toInt) ∧ (x5.toInt ≤ (i 7171).toInt) ∧ ((0 : Int) ≤ x2.toInt) ∧ ((x2.toInt + x5.toInt) ≤ (i 7171).toInt)) := hg487
                      first | refine ft_go mi_k117 2 110 [(7, .ref 108), (6, .ref 112), (0, .ref 0), (1, .int x1), (2, .int x2), (3, .int x3), (4, .int x4), (5, .int x5)] [.int (-13)] i a q r (by rfl) ?_ | refine ko_steps mi_in117 2 _ (110, [(7, .ref 108), (6, .ref 112), (0, .ref 0), (1, .int x1), (2, .int x2), (3, .int x3), (4, .int x4), (5, .int x5)], [.int (-13)], (0, 0), ks i a q r) (by rfl) ?_
                      exact ft_ret mi_k117 (by rfl) (hP (-13) _ _ _ _ hG trivial)
                  ·
                    have c494 : (i 7170).toInt ≠ (i 6914).toInt := kd_eqF c; clear c
                    first | refine ft_go mi_k117 1 84 [(7, .ref 108), (6, .ref 112), (0, .ref 0), (1, .int x1), (2, .int x2), (3, .int x3), (4, .int x4), (5, .int x5)] [.int (-12)] i a q r (by rfl) ?_ | refine ko_steps mi_in117 1 _ (84, [(7, .ref 108), (6, .ref 112), (0, .ref 0), (1, .int x1), (2, .int x2), (3, .int x3), (4, .int x4), (5, .int x5)], [.int (-12)], (0, 0), ks i a q r) (by rfl) ?_
                    exact ft_ret mi_k117 (by rfl) (hP (-12) _ _ _ _ hG trivial)
            ·
              have c495 : (i 6912).toInt = (0 : Int32).toInt := kd_neF c; clear c
              first | refine ft_go mi_k117 1 50 [(7, .ref 108), (6, .ref 112), (0, .ref 0), (1, .int x1), (2, .int x2), (3, .int x3), (4, .int x4), (5, .int x5)] [.int (-11)] i a q r (by rfl) ?_ | refine ko_steps mi_in117 1 _ (50, [(7, .ref 108), (6, .ref 112), (0, .ref 0), (1, .int x1), (2, .int x2), (3, .int x3), (4, .int x4), (5, .int x5)], [.int (-11)], (0, 0), ks i a q r) (by rfl) ?_
              exact ft_ret mi_k117 (by rfl) (hP (-11) _ _ _ _ hG trivial)
        by_cases w496 : x3.toInt = 3
        ·
          refine ko_eq (x1 := (29, [(6, .ref 112), (0, .ref 0), (1, .int x1), (2, .int x2), (3, .int x3), (4, .int x4), (5, .int x5)], [.int 3, .ref 97], (0, 0), ks i a q r)) (by rw [(kj_eq w496 (by decide) : x3 = 3)]) ?_
          have fi_7168 : ((0 : Int) ≤ (i 7168).toInt) ∧ ((i 7168).toInt ≤ 2) := hG.I.1 7168
          first | refine ft_go mi_k117 4 37 [(7, .ref 110), (6, .ref 112), (0, .ref 0), (1, .int x1), (2, .int x2), (3, .int x3), (4, .int x4), (5, .int x5)] [.int (i 7168)] i a q r (by rfl) ?_ | refine ko_steps mi_in117 4 _ (37, [(7, .ref 110), (6, .ref 112), (0, .ref 0), (1, .int x1), (2, .int x2), (3, .int x3), (4, .int x4), (5, .int x5)], [.int (i 7168)], (0, 0), ks i a q r) (by rfl) ?_
          refine ft_if mi_k117 ((i 7168) == 0) 48 40 [(7, .ref 110), (6, .ref 112), (0, .ref 0), (1, .int x1), (2, .int x2), (3, .int x3), (4, .int x4), (5, .int x5)] [] (by rfl) (fun c => ?_) (fun c => ?_)
          ·
            have c497 : (i 7168).toInt = (0 : Int32).toInt := kd_eq c; clear c
            first | refine ft_go mi_k117 1 50 [(7, .ref 110), (6, .ref 112), (0, .ref 0), (1, .int x1), (2, .int x2), (3, .int x3), (4, .int x4), (5, .int x5)] [.int (-11)] i a q r (by rfl) ?_ | refine ko_steps mi_in117 1 _ (50, [(7, .ref 110), (6, .ref 112), (0, .ref 0), (1, .int x1), (2, .int x2), (3, .int x3), (4, .int x4), (5, .int x5)], [.int (-11)], (0, 0), ks i a q r) (by rfl) ?_
            exact ft_ret mi_k117 (by rfl) (hP (-11) _ _ _ _ hG trivial)
          ·
            have c498 : (i 7168).toInt ≠ (0 : Int32).toInt := kd_eqF c; clear c
            have fi_7040 : ((0 : Int) ≤ (i 7040).toInt) ∧ ((i 7040).toInt ≤ 2) := hG.I.1 7040
            first | refine ft_go mi_k117 2 45 [(7, .ref 110), (6, .ref 112), (0, .ref 0), (1, .int x1), (2, .int x2), (3, .int x3), (4, .int x4), (5, .int x5)] [.int (i 7040)] i a q r (by rfl) ?_ | refine ko_steps mi_in117 2 _ (45, [(7, .ref 110), (6, .ref 112), (0, .ref 0), (1, .int x1), (2, .int x2), (3, .int x3), (4, .int x4), (5, .int x5)], [.int (i 7040)], (0, 0), ks i a q r) (by rfl) ?_
            refine ft_if mi_k117 ((i 7040) != 0) 51 48 [(7, .ref 110), (6, .ref 112), (0, .ref 0), (1, .int x1), (2, .int x2), (3, .int x3), (4, .int x4), (5, .int x5)] [] (by rfl) (fun c => ?_) (fun c => ?_)
            ·
              have c499 : (i 7040).toInt ≠ (0 : Int32).toInt := kd_ne c; clear c
              first | refine ft_go mi_k117 3 57 [(7, .ref 110), (6, .ref 112), (0, .ref 0), (1, .int x1), (2, .int x2), (3, .int x3), (4, .int x4), (5, .int x5)] [.int 2, .int (i 7168)] i a q r (by rfl) ?_ | refine ko_steps mi_in117 3 _ (57, [(7, .ref 110), (6, .ref 112), (0, .ref 0), (1, .int x1), (2, .int x2), (3, .int x3), (4, .int x4), (5, .int x5)], [.int 2, .int (i 7168)], (0, 0), ks i a q r) (by rfl) ?_
              refine ft_if mi_k117 ((i 7168) != 2) 82 60 [(7, .ref 110), (6, .ref 112), (0, .ref 0), (1, .int x1), (2, .int x2), (3, .int x3), (4, .int x4), (5, .int x5)] [] (by rfl) (fun c => ?_) (fun c => ?_)
              ·
                have c500 : (i 7168).toInt ≠ (2 : Int32).toInt := kd_ne c; clear c
                first | refine ft_go mi_k117 1 84 [(7, .ref 110), (6, .ref 112), (0, .ref 0), (1, .int x1), (2, .int x2), (3, .int x3), (4, .int x4), (5, .int x5)] [.int (-12)] i a q r (by rfl) ?_ | refine ko_steps mi_in117 1 _ (84, [(7, .ref 110), (6, .ref 112), (0, .ref 0), (1, .int x1), (2, .int x2), (3, .int x3), (4, .int x4), (5, .int x5)], [.int (-12)], (0, 0), ks i a q r) (by rfl) ?_
                exact ft_ret mi_k117 (by rfl) (hP (-12) _ _ _ _ hG trivial)
              ·
                have c501 : (i 7168).toInt = (2 : Int32).toInt := kd_neF c; clear c
                first | refine ft_go mi_k117 3 66 [(7, .ref 110), (6, .ref 112), (0, .ref 0), (1, .int x1), (2, .int x2), (3, .int x3), (4, .int x4), (5, .int x5)] [.int 2, .int (i 7040)] i a q r (by rfl) ?_ | refine ko_steps mi_in117 3 _ (66, [(7, .ref 110), (6, .ref 112), (0, .ref 0), (1, .int x1), (2, .int x2), (3, .int x3), (4, .int x4), (5, .int x5)], [.int 2, .int (i 7040)], (0, 0), ks i a q r) (by rfl) ?_
                refine ft_if mi_k117 ((i 7040) != 2) 82 69 [(7, .ref 110), (6, .ref 112), (0, .ref 0), (1, .int x1), (2, .int x2), (3, .int x3), (4, .int x4), (5, .int x5)] [] (by rfl) (fun c => ?_) (fun c => ?_)
                ·
                  have c502 : (i 7040).toInt ≠ (2 : Int32).toInt := kd_ne c; clear c
                  first | refine ft_go mi_k117 1 84 [(7, .ref 110), (6, .ref 112), (0, .ref 0), (1, .int x1), (2, .int x2), (3, .int x3), (4, .int x4), (5, .int x5)] [.int (-12)] i a q r (by rfl) ?_ | refine ko_steps mi_in117 1 _ (84, [(7, .ref 110), (6, .ref 112), (0, .ref 0), (1, .int x1), (2, .int x2), (3, .int x3), (4, .int x4), (5, .int x5)], [.int (-12)], (0, 0), ks i a q r) (by rfl) ?_
                  exact ft_ret mi_k117 (by rfl) (hP (-12) _ _ _ _ hG trivial)
                ·
                  have c503 : (i 7040).toInt = (2 : Int32).toInt := kd_neF c; clear c
                  have fi_7170 : ((0 : Int) ≤ (i 7170).toInt) ∧ ((i 7170).toInt ≤ 4) := hG.I.1 7170
                  have fi_7042 : ((0 : Int) ≤ (i 7042).toInt) ∧ ((i 7042).toInt ≤ 4) := hG.I.1 7042
                  first | refine ft_go mi_k117 4 79 [(7, .ref 110), (6, .ref 112), (0, .ref 0), (1, .int x1), (2, .int x2), (3, .int x3), (4, .int x4), (5, .int x5)] [.int (i 7042), .int (i 7170)] i a q r (by rfl) ?_ | refine ko_steps mi_in117 4 _ (79, [(7, .ref 110), (6, .ref 112), (0, .ref 0), (1, .int x1), (2, .int x2), (3, .int x3), (4, .int x4), (5, .int x5)], [.int (i 7042), .int (i 7170)], (0, 0), ks i a q r) (by rfl) ?_
                  refine ft_if mi_k117 ((i 7170) == (i 7042)) 85 82 [(7, .ref 110), (6, .ref 112), (0, .ref 0), (1, .int x1), (2, .int x2), (3, .int x3), (4, .int x4), (5, .int x5)] [] (by rfl) (fun c => ?_) (fun c => ?_)
                  ·
                    have c504 : (i 7170).toInt = (i 7042).toInt := kd_eq c; clear c
                    first | refine ft_go mi_k117 3 90 [(7, .ref 110), (6, .ref 112), (0, .ref 0), (1, .int x1), (2, .int x2), (3, .int x3), (4, .int x4), (5, .int x5)] [.int x5, .int x2, .ref 112] i a q r (by rfl) ?_ | refine ko_steps mi_in117 3 _ (90, [(7, .ref 110), (6, .ref 112), (0, .ref 0), (1, .int x1), (2, .int x2), (3, .int x3), (4, .int x4), (5, .int x5)], [.int x5, .int x2, .ref 112], (0, 0), ks i a q r) (by rfl) ?_
                    refine ko_callPI mi_k117.1 (pc := 90) (ls := [(7, .ref 110), (6, .ref 112), (0, .ref 0), (1, .int x1), (2, .int x2), (3, .int x3), (4, .int x4), (5, .int x5)]) (st := [.int x5, .int x2, .ref 112]) (h := ks i a q r) (i := (.invokevirtual 324, 3, 37, 0, 9, 0, 316)) (mi_k117.2 _ _ (by rfl)) (ft_invS mi_pq37 (by rfl)) (cy := mi_c37) mi_pq37 rfl (kc37_112 hG.I hG.R x2 x5) (by decide) ?_
                    intro vg505 hg505
                    rcases hg505 with ⟨eg505, hg505⟩ | ⟨eg505, hg505⟩
                    ·
                      subst eg505
                      have fi_7171 : ((0 : Int) ≤ (i 7171).toInt) ∧ ((i 7171).toInt ≤ 60) := hG.I.1 7171
                      have z506 : ((0 : Int) ≤ x5.toInt) ∧ (x5.toInt ≤ (i 7171).toInt) ∧ ((0 : Int) ≤ x2.toInt) ∧ ((x2.toInt + x5.toInt) ≤ (i 7171).toInt) := hg505
                      first | refine ft_go mi_k117 4 102 [(7, .ref 110), (6, .ref 112), (0, .ref 0), (1, .int x1), (2, .int x2), (3, .int x3), (4, .int x4), (5, .int x5)] [.int x5, .int x4, .ref 110] i a q r (by rfl) ?_ | refine ko_steps mi_in117 4 _ (102, [(7, .ref 110), (6, .ref 112), (0, .ref 0), (1, .int x1), (2, .int x2), (3, .int x3), (4, .int x4), (5, .int x5)], [.int x5, .int x4, .ref 110], (0, 0), ks i a q r) (by rfl) ?_
                      refine ko_callPI mi_k117.1 (pc := 102) (ls := [(7, .ref 110), (6, .ref 112), (0, .ref 0), (1, .int x1), (2, .int x2), (3, .int x3), (4, .int x4), (5, .int x5)]) (st := [.int x5, .int x4, .ref 110]) (h := ks i a q r) (i := (.invokevirtual 324, 3, 37, 0, 9, 0, 316)) (mi_k117.2 _ _ (by rfl)) (ft_invS mi_pq37 (by rfl)) (cy := mi_c37) mi_pq37 rfl (kc37_110 hG.I hG.R x4 x5) (by decide) ?_
                      intro vg507 hg507
                      rcases hg507 with ⟨eg507, hg507⟩ | ⟨eg507, hg507⟩
                      ·
                        subst eg507
                        have fi_7043 : ((0 : Int) ≤ (i 7043).toInt) ∧ ((i 7043).toInt ≤ 60) := hG.I.1 7043
                        have z508 : ((0 : Int) ≤ x5.toInt) ∧ (x5.toInt ≤ (i 7043).toInt) ∧ ((0 : Int) ≤ x4.toInt) ∧ ((x4.toInt + x5.toInt) ≤ (i 7043).toInt) := hg507
                        first | refine ft_go mi_k117 8 126 [(7, .ref 110), (6, .ref 112), (0, .ref 0), (1, .int x1), (2, .int x2), (3, .int x3), (4, .int x4), (5, .int x5)] [.int x5, .int x4, .ref 111, .int x2, .ref 113] i a q r (by rfl) ?_ | refine ko_steps mi_in117 8 _ (126, [(7, .ref 110), (6, .ref 112), (0, .ref 0), (1, .int x1), (2, .int x2), (3, .int x3), (4, .int x4), (5, .int x5)], [.int x5, .int x4, .ref 111, .int x2, .ref 113], (0, 0), ks i a q r) (by rfl) ?_
                        have hJ509 := kG_q hG 111 rfl (z := mi_cpy (q 113) (q 111) x2.toNatClampNeg x4.toNatClampNeg x5.toNatClampNeg) (kcpy_len2 (n := 60) (c := 60) (m := 60) (b := 60) (sp := x2) (dp := x4) (n1 := x5) (hG.I.2.2.2 113) rfl (hG.I.2.2.2 111) rfl (oz3 z506.1) (oz3 z506.2.2.1) (oz3 z508.2.2.1) (oz1278 fi_7171.2 z506.2.2.2) (oz1278 fi_7043.2 z508.2.2.2))
                        refine ko_copyL2 mi_k117.1 (l := q 113) (g := q 111) (n := 60) (c := 60) (m := 60) (b := 60) (mi_k117.2 _ _ (by rfl)) (by rfl) (by rfl) (by rfl) (by rfl) (by rfl) (hG.I.2.2.2 113) rfl (hG.I.2.2.2 111) rfl (oz3 z506.1) (oz3 z506.2.2.1) (oz3 z508.2.2.1) (oz1278 fi_7171.2 z506.2.2.2) (oz1278 fi_7043.2 z508.2.2.2) (h5 := ks i a (ku q 111 (mi_cpy (q 113) (q 111) x2.toNatClampNeg x4.toNatClampNeg x5.toNatClampNeg)) r) (by rfl) ?_
                        first | refine ft_go mi_k117 1 131 [(7, .ref 110), (6, .ref 112), (0, .ref 0), (1, .int x1), (2, .int x2), (3, .int x3), (4, .int x4), (5, .int x5)] [.int x5] i a (ku q 111 (mi_cpy (q 113) (q 111) x2.toNatClampNeg x4.toNatClampNeg x5.toNatClampNeg)) r (by rfl) ?_ | refine ko_steps mi_in117 1 _ (131, [(7, .ref 110), (6, .ref 112), (0, .ref 0), (1, .int x1), (2, .int x2), (3, .int x3), (4, .int x4), (5, .int x5)], [.int x5], (0, 0), ks i a (ku q 111 (mi_cpy (q 113) (q 111) x2.toNatClampNeg x4.toNatClampNeg x5.toNatClampNeg)) r) (by rfl) ?_
                        exact ft_ret mi_k117 (by rfl) (hP x5 _ _ _ _ hJ509 trivial)
                      ·
                        subst eg507
                        have fi_7043 : ((0 : Int) ≤ (i 7043).toInt) ∧ ((i 7043).toInt ≤ 60) := hG.I.1 7043
                        have z510 : ¬ (((0 : Int) ≤ x5.toInt) ∧ (x5.toInt ≤ (i 7043).toInt) ∧ ((0 : Int) ≤ x4.toInt) ∧ ((x4.toInt + x5.toInt) ≤ (i 7043).toInt)) := hg507
                        first | refine ft_go mi_k117 2 110 [(7, .ref 110), (6, .ref 112), (0, .ref 0), (1, .int x1), (2, .int x2), (3, .int x3), (4, .int x4), (5, .int x5)] [.int (-13)] i a q r (by rfl) ?_ | refine ko_steps mi_in117 2 _ (110, [(7, .ref 110), (6, .ref 112), (0, .ref 0), (1, .int x1), (2, .int x2), (3, .int x3), (4, .int x4), (5, .int x5)], [.int (-13)], (0, 0), ks i a q r) (by rfl) ?_
                        exact ft_ret mi_k117 (by rfl) (hP (-13) _ _ _ _ hG trivial)
                    ·
                      subst eg505
                      have fi_7171 : ((0 : Int) ≤ (i 7171).toInt) ∧ ((i 7171).toInt ≤ 60) := hG.I.1 7171
                      have z511 : ¬ (((0 : Int) ≤ x5.toInt) ∧ (x5.toInt ≤ (i 7171).toInt) ∧ ((0 : Int) ≤ x2.toInt) ∧ ((x2.toInt + x5.toInt) ≤ (i 7171).toInt)) := hg505
                      first | refine ft_go mi_k117 2 110 [(7, .ref 110), (6, .ref 112), (0, .ref 0), (1, .int x1), (2, .int x2), (3, .int x3), (4, .int x4), (5, .int x5)] [.int (-13)] i a q r (by rfl) ?_ | refine ko_steps mi_in117 2 _ (110, [(7, .ref 110), (6, .ref 112), (0, .ref 0), (1, .int x1), (2, .int x2), (3, .int x3), (4, .int x4), (5, .int x5)], [.int (-13)], (0, 0), ks i a q r) (by rfl) ?_
                      exact ft_ret mi_k117 (by rfl) (hP (-13) _ _ _ _ hG trivial)
                  ·
                    have c512 : (i 7170).toInt ≠ (i 7042).toInt := kd_eqF c; clear c
                    first | refine ft_go mi_k117 1 84 [(7, .ref 110), (6, .ref 112), (0, .ref 0), (1, .int x1), (2, .int x2), (3, .int x3), (4, .int x4), (5, .int x5)] [.int (-12)] i a q r (by rfl) ?_ | refine ko_steps mi_in117 1 _ (84, [(7, .ref 110), (6, .ref 112), (0, .ref 0), (1, .int x1), (2, .int x2), (3, .int x3), (4, .int x4), (5, .int x5)], [.int (-12)], (0, 0), ks i a q r) (by rfl) ?_
                    exact ft_ret mi_k117 (by rfl) (hP (-12) _ _ _ _ hG trivial)
            ·
              have c513 : (i 7040).toInt = (0 : Int32).toInt := kd_neF c; clear c
              first | refine ft_go mi_k117 1 50 [(7, .ref 110), (6, .ref 112), (0, .ref 0), (1, .int x1), (2, .int x2), (3, .int x3), (4, .int x4), (5, .int x5)] [.int (-11)] i a q r (by rfl) ?_ | refine ko_steps mi_in117 1 _ (50, [(7, .ref 110), (6, .ref 112), (0, .ref 0), (1, .int x1), (2, .int x2), (3, .int x3), (4, .int x4), (5, .int x5)], [.int (-11)], (0, 0), ks i a q r) (by rfl) ?_
              exact ft_ret mi_k117 (by rfl) (hP (-11) _ _ _ _ hG trivial)
        by_cases w514 : x3.toInt = 4
        ·
          refine ko_eq (x1 := (29, [(6, .ref 112), (0, .ref 0), (1, .int x1), (2, .int x2), (3, .int x3), (4, .int x4), (5, .int x5)], [.int 4, .ref 97], (0, 0), ks i a q r)) (by rw [(kj_eq w514 (by decide) : x3 = 4)]) ?_
          have fi_7168 : ((0 : Int) ≤ (i 7168).toInt) ∧ ((i 7168).toInt ≤ 2) := hG.I.1 7168
          first | refine ft_go mi_k117 4 37 [(7, .ref 112), (6, .ref 112), (0, .ref 0), (1, .int x1), (2, .int x2), (3, .int x3), (4, .int x4), (5, .int x5)] [.int (i 7168)] i a q r (by rfl) ?_ | refine ko_steps mi_in117 4 _ (37, [(7, .ref 112), (6, .ref 112), (0, .ref 0), (1, .int x1), (2, .int x2), (3, .int x3), (4, .int x4), (5, .int x5)], [.int (i 7168)], (0, 0), ks i a q r) (by rfl) ?_
          refine ft_if mi_k117 ((i 7168) == 0) 48 40 [(7, .ref 112), (6, .ref 112), (0, .ref 0), (1, .int x1), (2, .int x2), (3, .int x3), (4, .int x4), (5, .int x5)] [] (by rfl) (fun c => ?_) (fun c => ?_)
          ·
            have c515 : (i 7168).toInt = (0 : Int32).toInt := kd_eq c; clear c
            first | refine ft_go mi_k117 1 50 [(7, .ref 112), (6, .ref 112), (0, .ref 0), (1, .int x1), (2, .int x2), (3, .int x3), (4, .int x4), (5, .int x5)] [.int (-11)] i a q r (by rfl) ?_ | refine ko_steps mi_in117 1 _ (50, [(7, .ref 112), (6, .ref 112), (0, .ref 0), (1, .int x1), (2, .int x2), (3, .int x3), (4, .int x4), (5, .int x5)], [.int (-11)], (0, 0), ks i a q r) (by rfl) ?_
            exact ft_ret mi_k117 (by rfl) (hP (-11) _ _ _ _ hG trivial)
          ·
            have c516 : (i 7168).toInt ≠ (0 : Int32).toInt := kd_eqF c; clear c
            first | refine ft_go mi_k117 2 45 [(7, .ref 112), (6, .ref 112), (0, .ref 0), (1, .int x1), (2, .int x2), (3, .int x3), (4, .int x4), (5, .int x5)] [.int (i 7168)] i a q r (by rfl) ?_ | refine ko_steps mi_in117 2 _ (45, [(7, .ref 112), (6, .ref 112), (0, .ref 0), (1, .int x1), (2, .int x2), (3, .int x3), (4, .int x4), (5, .int x5)], [.int (i 7168)], (0, 0), ks i a q r) (by rfl) ?_
            refine ft_if mi_k117 ((i 7168) != 0) 51 48 [(7, .ref 112), (6, .ref 112), (0, .ref 0), (1, .int x1), (2, .int x2), (3, .int x3), (4, .int x4), (5, .int x5)] [] (by rfl) (fun c => ?_) (fun c => ?_)
            ·
              have c517 : (i 7168).toInt ≠ (0 : Int32).toInt := kd_ne c; clear c
              first | refine ft_go mi_k117 3 57 [(7, .ref 112), (6, .ref 112), (0, .ref 0), (1, .int x1), (2, .int x2), (3, .int x3), (4, .int x4), (5, .int x5)] [.int 2, .int (i 7168)] i a q r (by rfl) ?_ | refine ko_steps mi_in117 3 _ (57, [(7, .ref 112), (6, .ref 112), (0, .ref 0), (1, .int x1), (2, .int x2), (3, .int x3), (4, .int x4), (5, .int x5)], [.int 2, .int (i 7168)], (0, 0), ks i a q r) (by rfl) ?_
              refine ft_if mi_k117 ((i 7168) != 2) 82 60 [(7, .ref 112), (6, .ref 112), (0, .ref 0), (1, .int x1), (2, .int x2), (3, .int x3), (4, .int x4), (5, .int x5)] [] (by rfl) (fun c => ?_) (fun c => ?_)
              ·
                have c518 : (i 7168).toInt ≠ (2 : Int32).toInt := kd_ne c; clear c
                first | refine ft_go mi_k117 1 84 [(7, .ref 112), (6, .ref 112), (0, .ref 0), (1, .int x1), (2, .int x2), (3, .int x3), (4, .int x4), (5, .int x5)] [.int (-12)] i a q r (by rfl) ?_ | refine ko_steps mi_in117 1 _ (84, [(7, .ref 112), (6, .ref 112), (0, .ref 0), (1, .int x1), (2, .int x2), (3, .int x3), (4, .int x4), (5, .int x5)], [.int (-12)], (0, 0), ks i a q r) (by rfl) ?_
                exact ft_ret mi_k117 (by rfl) (hP (-12) _ _ _ _ hG trivial)
              ·
                have c519 : (i 7168).toInt = (2 : Int32).toInt := kd_neF c; clear c
                first | refine ft_go mi_k117 3 66 [(7, .ref 112), (6, .ref 112), (0, .ref 0), (1, .int x1), (2, .int x2), (3, .int x3), (4, .int x4), (5, .int x5)] [.int 2, .int (i 7168)] i a q r (by rfl) ?_ | refine ko_steps mi_in117 3 _ (66, [(7, .ref 112), (6, .ref 112), (0, .ref 0), (1, .int x1), (2, .int x2), (3, .int x3), (4, .int x4), (5, .int x5)], [.int 2, .int (i 7168)], (0, 0), ks i a q r) (by rfl) ?_
                refine ft_if mi_k117 ((i 7168) != 2) 82 69 [(7, .ref 112), (6, .ref 112), (0, .ref 0), (1, .int x1), (2, .int x2), (3, .int x3), (4, .int x4), (5, .int x5)] [] (by rfl) (fun c => ?_) (fun c => ?_)
                ·
                  have c520 : (i 7168).toInt ≠ (2 : Int32).toInt := kd_ne c; clear c
                  exact (oz1271 c519 c520 fi_7168.2 kn2).elim
                ·
                  have c521 : (i 7168).toInt = (2 : Int32).toInt := kd_neF c; clear c
                  have fi_7170 : ((0 : Int) ≤ (i 7170).toInt) ∧ ((i 7170).toInt ≤ 4) := hG.I.1 7170
                  first | refine ft_go mi_k117 4 79 [(7, .ref 112), (6, .ref 112), (0, .ref 0), (1, .int x1), (2, .int x2), (3, .int x3), (4, .int x4), (5, .int x5)] [.int (i 7170), .int (i 7170)] i a q r (by rfl) ?_ | refine ko_steps mi_in117 4 _ (79, [(7, .ref 112), (6, .ref 112), (0, .ref 0), (1, .int x1), (2, .int x2), (3, .int x3), (4, .int x4), (5, .int x5)], [.int (i 7170), .int (i 7170)], (0, 0), ks i a q r) (by rfl) ?_
                  refine ft_if mi_k117 ((i 7170) == (i 7170)) 85 82 [(7, .ref 112), (6, .ref 112), (0, .ref 0), (1, .int x1), (2, .int x2), (3, .int x3), (4, .int x4), (5, .int x5)] [] (by rfl) (fun c => ?_) (fun c => ?_)
                  ·
                    have c522 : (i 7170).toInt = (i 7170).toInt := kd_eq c; clear c
                    first | refine ft_go mi_k117 3 90 [(7, .ref 112), (6, .ref 112), (0, .ref 0), (1, .int x1), (2, .int x2), (3, .int x3), (4, .int x4), (5, .int x5)] [.int x5, .int x2, .ref 112] i a q r (by rfl) ?_ | refine ko_steps mi_in117 3 _ (90, [(7, .ref 112), (6, .ref 112), (0, .ref 0), (1, .int x1), (2, .int x2), (3, .int x3), (4, .int x4), (5, .int x5)], [.int x5, .int x2, .ref 112], (0, 0), ks i a q r) (by rfl) ?_
                    refine ko_callPI mi_k117.1 (pc := 90) (ls := [(7, .ref 112), (6, .ref 112), (0, .ref 0), (1, .int x1), (2, .int x2), (3, .int x3), (4, .int x4), (5, .int x5)]) (st := [.int x5, .int x2, .ref 112]) (h := ks i a q r) (i := (.invokevirtual 324, 3, 37, 0, 9, 0, 316)) (mi_k117.2 _ _ (by rfl)) (ft_invS mi_pq37 (by rfl)) (cy := mi_c37) mi_pq37 rfl (kc37_112 hG.I hG.R x2 x5) (by decide) ?_
                    intro vg523 hg523
                    rcases hg523 with ⟨eg523, hg523⟩ | ⟨eg523, hg523⟩
                    ·
                      subst eg523
                      have fi_7171 : ((0 : Int) ≤ (i 7171).toInt) ∧ ((i 7171).toInt ≤ 60) := hG.I.1 7171
                      have z524 : ((0 : Int) ≤ x5.toInt) ∧ (x5.toInt ≤ (i 7171).toInt) ∧ ((0 : Int) ≤ x2.toInt) ∧ ((x2.toInt + x5.toInt) ≤ (i 7171).toInt) := hg523
                      first | refine ft_go mi_k117 4 102 [(7, .ref 112), (6, .ref 112), (0, .ref 0), (1, .int x1), (2, .int x2), (3, .int x3), (4, .int x4), (5, .int x5)] [.int x5, .int x4, .ref 112] i a q r (by rfl) ?_ | refine ko_steps mi_in117 4 _ (102, [(7, .ref 112), (6, .ref 112), (0, .ref 0), (1, .int x1), (2, .int x2), (3, .int x3), (4, .int x4), (5, .int x5)], [.int x5, .int x4, .ref 112], (0, 0), ks i a q r) (by rfl) ?_
                      refine ko_callPI mi_k117.1 (pc := 102) (ls := [(7, .ref 112), (6, .ref 112), (0, .ref 0), (1, .int x1), (2, .int x2), (3, .int x3), (4, .int x4), (5, .int x5)]) (st := [.int x5, .int x4, .ref 112]) (h := ks i a q r) (i := (.invokevirtual 324, 3, 37, 0, 9, 0, 316)) (mi_k117.2 _ _ (by rfl)) (ft_invS mi_pq37 (by rfl)) (cy := mi_c37) mi_pq37 rfl (kc37_112 hG.I hG.R x4 x5) (by decide) ?_
                      intro vg525 hg525
                      rcases hg525 with ⟨eg525, hg525⟩ | ⟨eg525, hg525⟩
                      ·
                        subst eg525
                        have z526 : ((0 : Int) ≤ x5.toInt) ∧ (x5.toInt ≤ (i 7171).toInt) ∧ ((0 : Int) ≤ x4.toInt) ∧ ((x4.toInt + x5.toInt) ≤ (i 7171).toInt) := hg525
                        first | refine ft_go mi_k117 8 126 [(7, .ref 112), (6, .ref 112), (0, .ref 0), (1, .int x1), (2, .int x2), (3, .int x3), (4, .int x4), (5, .int x5)] [.int x5, .int x4, .ref 113, .int x2, .ref 113] i a q r (by rfl) ?_ | refine ko_steps mi_in117 8 _ (126, [(7, .ref 112), (6, .ref 112), (0, .ref 0), (1, .int x1), (2, .int x2), (3, .int x3), (4, .int x4), (5, .int x5)], [.int x5, .int x4, .ref 113, .int x2, .ref 113], (0, 0), ks i a q r) (by rfl) ?_
                        have hJ527 := kG_q hG 113 rfl (z := mi_cpy (q 113) (q 113) x2.toNatClampNeg x4.toNatClampNeg x5.toNatClampNeg) (kcpy_len2 (n := 60) (c := 60) (m := 60) (b := 60) (sp := x2) (dp := x4) (n1 := x5) (hG.I.2.2.2 113) rfl (hG.I.2.2.2 113) rfl (oz3 z524.1) (oz3 z524.2.2.1) (oz3 z526.2.2.1) (oz1278 fi_7171.2 z524.2.2.2) (oz1278 fi_7171.2 z526.2.2.2))
                        refine ko_copyL2 mi_k117.1 (l := q 113) (g := q 113) (n := 60) (c := 60) (m := 60) (b := 60) (mi_k117.2 _ _ (by rfl)) (by rfl) (by rfl) (by rfl) (by rfl) (by rfl) (hG.I.2.2.2 113) rfl (hG.I.2.2.2 113) rfl (oz3 z524.1) (oz3 z524.2.2.1) (oz3 z526.2.2.1) (oz1278 fi_7171.2 z524.2.2.2) (oz1278 fi_7171.2 z526.2.2.2) (h5 := ks i a (ku q 113 (mi_cpy (q 113) (q 113) x2.toNatClampNeg x4.toNatClampNeg x5.toNatClampNeg)) r) (by rfl) ?_
                        first | refine ft_go mi_k117 1 131 [(7, .ref 112), (6, .ref 112), (0, .ref 0), (1, .int x1), (2, .int x2), (3, .int x3), (4, .int x4), (5, .int x5)] [.int x5] i a (ku q 113 (mi_cpy (q 113) (q 113) x2.toNatClampNeg x4.toNatClampNeg x5.toNatClampNeg)) r (by rfl) ?_ | refine ko_steps mi_in117 1 _ (131, [(7, .ref 112), (6, .ref 112), (0, .ref 0), (1, .int x1), (2, .int x2), (3, .int x3), (4, .int x4), (5, .int x5)], [.int x5], (0, 0), ks i a (ku q 113 (mi_cpy (q 113) (q 113) x2.toNatClampNeg x4.toNatClampNeg x5.toNatClampNeg)) r) (by rfl) ?_
                        exact ft_ret mi_k117 (by rfl) (hP x5 _ _ _ _ hJ527 trivial)
                      ·
                        subst eg525
                        have z528 : ¬ (((0 : Int) ≤ x5.toInt) ∧ (x5.toInt ≤ (i 7171).toInt) ∧ ((0 : Int) ≤ x4.toInt) ∧ ((x4.toInt + x5.toInt) ≤ (i 7171).toInt)) := hg525
                        first | refine ft_go mi_k117 2 110 [(7, .ref 112), (6, .ref 112), (0, .ref 0), (1, .int x1), (2, .int x2), (3, .int x3), (4, .int x4), (5, .int x5)] [.int (-13)] i a q r (by rfl) ?_ | refine ko_steps mi_in117 2 _ (110, [(7, .ref 112), (6, .ref 112), (0, .ref 0), (1, .int x1), (2, .int x2), (3, .int x3), (4, .int x4), (5, .int x5)], [.int (-13)], (0, 0), ks i a q r) (by rfl) ?_
                        exact ft_ret mi_k117 (by rfl) (hP (-13) _ _ _ _ hG trivial)
                    ·
                      subst eg523
                      have fi_7171 : ((0 : Int) ≤ (i 7171).toInt) ∧ ((i 7171).toInt ≤ 60) := hG.I.1 7171
                      have z529 : ¬ (((0 : Int) ≤ x5.toInt) ∧ (x5.toInt ≤ (i 7171).toInt) ∧ ((0 : Int) ≤ x2.toInt) ∧ ((x2.toInt + x5.toInt) ≤ (i 7171).toInt)) := hg523
                      first | refine ft_go mi_k117 2 110 [(7, .ref 112), (6, .ref 112), (0, .ref 0), (1, .int x1), (2, .int x2), (3, .int x3), (4, .int x4), (5, .int x5)] [.int (-13)] i a q r (by rfl) ?_ | refine ko_steps mi_in117 2 _ (110, [(7, .ref 112), (6, .ref 112), (0, .ref 0), (1, .int x1), (2, .int x2), (3, .int x3), (4, .int x4), (5, .int x5)], [.int (-13)], (0, 0), ks i a q r) (by rfl) ?_
                      exact ft_ret mi_k117 (by rfl) (hP (-13) _ _ _ _ hG trivial)
                  ·
                    have c530 : (i 7170).toInt ≠ (i 7170).toInt := kd_eqF c; clear c
                    exact (oz1279 c530).elim
            ·
              have c531 : (i 7168).toInt = (0 : Int32).toInt := kd_neF c; clear c
              exact (oz1281 c516 c531 fi_7168.1 kn0).elim
        by_cases w532 : x3.toInt = 5
        ·
          refine ko_eq (x1 := (29, [(6, .ref 112), (0, .ref 0), (1, .int x1), (2, .int x2), (3, .int x3), (4, .int x4), (5, .int x5)], [.int 5, .ref 97], (0, 0), ks i a q r)) (by rw [(kj_eq w532 (by decide) : x3 = 5)]) ?_
          have fi_7168 : ((0 : Int) ≤ (i 7168).toInt) ∧ ((i 7168).toInt ≤ 2) := hG.I.1 7168
          first | refine ft_go mi_k117 4 37 [(7, .ref 114), (6, .ref 112), (0, .ref 0), (1, .int x1), (2, .int x2), (3, .int x3), (4, .int x4), (5, .int x5)] [.int (i 7168)] i a q r (by rfl) ?_ | refine ko_steps mi_in117 4 _ (37, [(7, .ref 114), (6, .ref 112), (0, .ref 0), (1, .int x1), (2, .int x2), (3, .int x3), (4, .int x4), (5, .int x5)], [.int (i 7168)], (0, 0), ks i a q r) (by rfl) ?_
          refine ft_if mi_k117 ((i 7168) == 0) 48 40 [(7, .ref 114), (6, .ref 112), (0, .ref 0), (1, .int x1), (2, .int x2), (3, .int x3), (4, .int x4), (5, .int x5)] [] (by rfl) (fun c => ?_) (fun c => ?_)
          ·
            have c533 : (i 7168).toInt = (0 : Int32).toInt := kd_eq c; clear c
            first | refine ft_go mi_k117 1 50 [(7, .ref 114), (6, .ref 112), (0, .ref 0), (1, .int x1), (2, .int x2), (3, .int x3), (4, .int x4), (5, .int x5)] [.int (-11)] i a q r (by rfl) ?_ | refine ko_steps mi_in117 1 _ (50, [(7, .ref 114), (6, .ref 112), (0, .ref 0), (1, .int x1), (2, .int x2), (3, .int x3), (4, .int x4), (5, .int x5)], [.int (-11)], (0, 0), ks i a q r) (by rfl) ?_
            exact ft_ret mi_k117 (by rfl) (hP (-11) _ _ _ _ hG trivial)
          ·
            have c534 : (i 7168).toInt ≠ (0 : Int32).toInt := kd_eqF c; clear c
            have fi_7296 : ((0 : Int) ≤ (i 7296).toInt) ∧ ((i 7296).toInt ≤ 2) := hG.I.1 7296
            first | refine ft_go mi_k117 2 45 [(7, .ref 114), (6, .ref 112), (0, .ref 0), (1, .int x1), (2, .int x2), (3, .int x3), (4, .int x4), (5, .int x5)] [.int (i 7296)] i a q r (by rfl) ?_ | refine ko_steps mi_in117 2 _ (45, [(7, .ref 114), (6, .ref 112), (0, .ref 0), (1, .int x1), (2, .int x2), (3, .int x3), (4, .int x4), (5, .int x5)], [.int (i 7296)], (0, 0), ks i a q r) (by rfl) ?_
            refine ft_if mi_k117 ((i 7296) != 0) 51 48 [(7, .ref 114), (6, .ref 112), (0, .ref 0), (1, .int x1), (2, .int x2), (3, .int x3), (4, .int x4), (5, .int x5)] [] (by rfl) (fun c => ?_) (fun c => ?_)
            ·
              have c535 : (i 7296).toInt ≠ (0 : Int32).toInt := kd_ne c; clear c
              first | refine ft_go mi_k117 3 57 [(7, .ref 114), (6, .ref 112), (0, .ref 0), (1, .int x1), (2, .int x2), (3, .int x3), (4, .int x4), (5, .int x5)] [.int 2, .int (i 7168)] i a q r (by rfl) ?_ | refine ko_steps mi_in117 3 _ (57, [(7, .ref 114), (6, .ref 112), (0, .ref 0), (1, .int x1), (2, .int x2), (3, .int x3), (4, .int x4), (5, .int x5)], [.int 2, .int (i 7168)], (0, 0), ks i a q r) (by rfl) ?_
              refine ft_if mi_k117 ((i 7168) != 2) 82 60 [(7, .ref 114), (6, .ref 112), (0, .ref 0), (1, .int x1), (2, .int x2), (3, .int x3), (4, .int x4), (5, .int x5)] [] (by rfl) (fun c => ?_) (fun c => ?_)
              ·
                have c536 : (i 7168).toInt ≠ (2 : Int32).toInt := kd_ne c; clear c
                first | refine ft_go mi_k117 1 84 [(7, .ref 114), (6, .ref 112), (0, .ref 0), (1, .int x1), (2, .int x2), (3, .int x3), (4, .int x4), (5, .int x5)] [.int (-12)] i a q r (by rfl) ?_ | refine ko_steps mi_in117 1 _ (84, [(7, .ref 114), (6, .ref 112), (0, .ref 0), (1, .int x1), (2, .int x2), (3, .int x3), (4, .int x4), (5, .int x5)], [.int (-12)], (0, 0), ks i a q r) (by rfl) ?_
                exact ft_ret mi_k117 (by rfl) (hP (-12) _ _ _ _ hG trivial)
              ·
                have c537 : (i 7168).toInt = (2 : Int32).toInt := kd_neF c; clear c
                first | refine ft_go mi_k117 3 66 [(7, .ref 114), (6, .ref 112), (0, .ref 0), (1, .int x1), (2, .int x2), (3, .int x3), (4, .int x4), (5, .int x5)] [.int 2, .int (i 7296)] i a q r (by rfl) ?_ | refine ko_steps mi_in117 3 _ (66, [(7, .ref 114), (6, .ref 112), (0, .ref 0), (1, .int x1), (2, .int x2), (3, .int x3), (4, .int x4), (5, .int x5)], [.int 2, .int (i 7296)], (0, 0), ks i a q r) (by rfl) ?_
                refine ft_if mi_k117 ((i 7296) != 2) 82 69 [(7, .ref 114), (6, .ref 112), (0, .ref 0), (1, .int x1), (2, .int x2), (3, .int x3), (4, .int x4), (5, .int x5)] [] (by rfl) (fun c => ?_) (fun c => ?_)
                ·
                  have c538 : (i 7296).toInt ≠ (2 : Int32).toInt := kd_ne c; clear c
                  first | refine ft_go mi_k117 1 84 [(7, .ref 114), (6, .ref 112), (0, .ref 0), (1, .int x1), (2, .int x2), (3, .int x3), (4, .int x4), (5, .int x5)] [.int (-12)] i a q r (by rfl) ?_ | refine ko_steps mi_in117 1 _ (84, [(7, .ref 114), (6, .ref 112), (0, .ref 0), (1, .int x1), (2, .int x2), (3, .int x3), (4, .int x4), (5, .int x5)], [.int (-12)], (0, 0), ks i a q r) (by rfl) ?_
                  exact ft_ret mi_k117 (by rfl) (hP (-12) _ _ _ _ hG trivial)
                ·
                  have c539 : (i 7296).toInt = (2 : Int32).toInt := kd_neF c; clear c
                  have fi_7170 : ((0 : Int) ≤ (i 7170).toInt) ∧ ((i 7170).toInt ≤ 4) := hG.I.1 7170
                  have fi_7298 : ((0 : Int) ≤ (i 7298).toInt) ∧ ((i 7298).toInt ≤ 4) := hG.I.1 7298
                  first | refine ft_go mi_k117 4 79 [(7, .ref 114), (6, .ref 112), (0, .ref 0), (1, .int x1), (2, .int x2), (3, .int x3), (4, .int x4), (5, .int x5)] [.int (i 7298), .int (i 7170)] i a q r (by rfl) ?_ | refine ko_steps mi_in117 4 _ (79, [(7, .ref 114), (6, .ref 112), (0, .ref 0), (1, .int x1), (2, .int x2), (3, .int x3), (4, .int x4), (5, .int x5)], [.int (i 7298), .int (i 7170)], (0, 0), ks i a q r) (by rfl) ?_
                  refine ft_if mi_k117 ((i 7170) == (i 7298)) 85 82 [(7, .ref 114), (6, .ref 112), (0, .ref 0), (1, .int x1), (2, .int x2), (3, .int x3), (4, .int x4), (5, .int x5)] [] (by rfl) (fun c => ?_) (fun c => ?_)
                  ·
                    have c540 : (i 7170).toInt = (i 7298).toInt := kd_eq c; clear c
                    first | refine ft_go mi_k117 3 90 [(7, .ref 114), (6, .ref 112), (0, .ref 0), (1, .int x1), (2, .int x2), (3, .int x3), (4, .int x4), (5, .int x5)] [.int x5, .int x2, .ref 112] i a q r (by rfl) ?_ | refine ko_steps mi_in117 3 _ (90, [(7, .ref 114), (6, .ref 112), (0, .ref 0), (1, .int x1), (2, .int x2), (3, .int x3), (4, .int x4), (5, .int x5)], [.int x5, .int x2, .ref 112], (0, 0), ks i a q r) (by rfl) ?_
                    refine ko_callPI mi_k117.1 (pc := 90) (ls := [(7, .ref 114), (6, .ref 112), (0, .ref 0), (1, .int x1), (2, .int x2), (3, .int x3), (4, .int x4), (5, .int x5)]) (st := [.int x5, .int x2, .ref 112]) (h := ks i a q r) (i := (.invokevirtual 324, 3, 37, 0, 9, 0, 316)) (mi_k117.2 _ _ (by rfl)) (ft_invS mi_pq37 (by rfl)) (cy := mi_c37) mi_pq37 rfl (kc37_112 hG.I hG.R x2 x5) (by decide) ?_
                    intro vg541 hg541
                    rcases hg541 with ⟨eg541, hg541⟩ | ⟨eg541, hg541⟩
                    ·
                      subst eg541
                      have fi_7171 : ((0 : Int) ≤ (i 7171).toInt) ∧ ((i 7171).toInt ≤ 60) := hG.I.1 7171
                      have z542 : ((0 : Int) ≤ x5.toInt) ∧ (x5.toInt ≤ (i 7171).toInt) ∧ ((0 : Int) ≤ x2.toInt) ∧ ((x2.toInt + x5.toInt) ≤ (i 7171).toInt) := hg541
                      first | refine ft_go mi_k117 4 102 [(7, .ref 114), (6, .ref 112), (0, .ref 0), (1, .int x1), (2, .int x2), (3, .int x3), (4, .int x4), (5, .int x5)] [.int x5, .int x4, .ref 114] i a q r (by rfl) ?_ | refine ko_steps mi_in117 4 _ (102, [(7, .ref 114), (6, .ref 112), (0, .ref 0), (1, .int x1), (2, .int x2), (3, .int x3), (4, .int x4), (5, .int x5)], [.int x5, .int x4, .ref 114], (0, 0), ks i a q r) (by rfl) ?_
                      refine ko_callPI mi_k117.1 (pc := 102) (ls := [(7, .ref 114), (6, .ref 112), (0, .ref 0), (1, .int x1), (2, .int x2), (3, .int x3), (4, .int x4), (5, .int x5)]) (st := [.int x5, .int x4, .ref 114]) (h := ks i a q r) (i := (.invokevirtual 324, 3, 37, 0, 9, 0, 316)) (mi_k117.2 _ _ (by rfl)) (ft_invS mi_pq37 (by rfl)) (cy := mi_c37) mi_pq37 rfl (kc37_114 hG.I hG.R x4 x5) (by decide) ?_
                      intro vg543 hg543
                      rcases hg543 with ⟨eg543, hg543⟩ | ⟨eg543, hg543⟩
                      ·
                        subst eg543
                        have fi_7299 : ((0 : Int) ≤ (i 7299).toInt) ∧ ((i 7299).toInt ≤ 60) := hG.I.1 7299
                        have z544 : ((0 : Int) ≤ x5.toInt) ∧ (x5.toInt ≤ (i 7299).toInt) ∧ ((0 : Int) ≤ x4.toInt) ∧ ((x4.toInt + x5.toInt) ≤ (i 7299).toInt) := hg543
                        first | refine ft_go mi_k117 8 126 [(7, .ref 114), (6, .ref 112), (0, .ref 0), (1, .int x1), (2, .int x2), (3, .int x3), (4, .int x4), (5, .int x5)] [.int x5, .int x4, .ref 115, .int x2, .ref 113] i a q r (by rfl) ?_ | refine ko_steps mi_in117 8 _ (126, [(7, .ref 114), (6, .ref 112), (0, .ref 0), (1, .int x1), (2, .int x2), (3, .int x3), (4, .int x4), (5, .int x5)], [.int x5, .int x4, .ref 115, .int x2, .ref 113], (0, 0), ks i a q r) (by rfl) ?_
                        have hJ545 := kG_q hG 115 rfl (z := mi_cpy (q 113) (q 115) x2.toNatClampNeg x4.toNatClampNeg x5.toNatClampNeg) (kcpy_len2 (n := 60) (c := 60) (m := 60) (b := 60) (sp := x2) (dp := x4) (n1 := x5) (hG.I.2.2.2 113) rfl (hG.I.2.2.2 115) rfl (oz3 z542.1) (oz3 z542.2.2.1) (oz3 z544.2.2.1) (oz1278 fi_7171.2 z542.2.2.2) (oz1278 fi_7299.2 z544.2.2.2))
                        refine ko_copyL2 mi_k117.1 (l := q 113) (g := q 115) (n := 60) (c := 60) (m := 60) (b := 60) (mi_k117.2 _ _ (by rfl)) (by rfl) (by rfl) (by rfl) (by rfl) (by rfl) (hG.I.2.2.2 113) rfl (hG.I.2.2.2 115) rfl (oz3 z542.1) (oz3 z542.2.2.1) (oz3 z544.2.2.1) (oz1278 fi_7171.2 z542.2.2.2) (oz1278 fi_7299.2 z544.2.2.2) (h5 := ks i a (ku q 115 (mi_cpy (q 113) (q 115) x2.toNatClampNeg x4.toNatClampNeg x5.toNatClampNeg)) r) (by rfl) ?_
                        first | refine ft_go mi_k117 1 131 [(7, .ref 114), (6, .ref 112), (0, .ref 0), (1, .int x1), (2, .int x2), (3, .int x3), (4, .int x4), (5, .int x5)] [.int x5] i a (ku q 115 (mi_cpy (q 113) (q 115) x2.toNatClampNeg x4.toNatClampNeg x5.toNatClampNeg)) r (by rfl) ?_ | refine ko_steps mi_in117 1 _ (131, [(7, .ref 114), (6, .ref 112), (0, .ref 0), (1, .int x1), (2, .int x2), (3, .int x3), (4, .int x4), (5, .int x5)], [.int x5], (0, 0), ks i a (ku q 115 (mi_cpy (q 113) (q 115) x2.toNatClampNeg x4.toNatClampNeg x5.toNatClampNeg)) r) (by rfl) ?_
                        exact ft_ret mi_k117 (by rfl) (hP x5 _ _ _ _ hJ545 trivial)
                      ·
                        subst eg543
                        have fi_7299 : ((0 : Int) ≤ (i 7299).toInt) ∧ ((i 7299).toInt ≤ 60) := hG.I.1 7299
                        have z546 : ¬ (((0 : Int) ≤ x5.toInt) ∧ (x5.toInt ≤ (i 7299).toInt) ∧ ((0 : Int) ≤ x4.toInt) ∧ ((x4.toInt + x5.toInt) ≤ (i 7299).toInt)) := hg543
                        first | refine ft_go mi_k117 2 110 [(7, .ref 114), (6, .ref 112), (0, .ref 0), (1, .int x1), (2, .int x2), (3, .int x3), (4, .int x4), (5, .int x5)] [.int (-13)] i a q r (by rfl) ?_ | refine ko_steps mi_in117 2 _ (110, [(7, .ref 114), (6, .ref 112), (0, .ref 0), (1, .int x1), (2, .int x2), (3, .int x3), (4, .int x4), (5, .int x5)], [.int (-13)], (0, 0), ks i a q r) (by rfl) ?_
                        exact ft_ret mi_k117 (by rfl) (hP (-13) _ _ _ _ hG trivial)
                    ·
                      subst eg541
                      have fi_7171 : ((0 : Int) ≤ (i 7171).toInt) ∧ ((i 7171).toInt ≤ 60) := hG.I.1 7171
                      have z547 : ¬ (((0 : Int) ≤ x5.toInt) ∧ (x5.toInt ≤ (i 7171).toInt) ∧ ((0 : Int) ≤ x2.toInt) ∧ ((x2.toInt + x5.toInt) ≤ (i 7171).toInt)) := hg541
                      first | refine ft_go mi_k117 2 110 [(7, .ref 114), (6, .ref 112), (0, .ref 0), (1, .int x1), (2, .int x2), (3, .int x3), (4, .int x4), (5, .int x5)] [.int (-13)] i a q r (by rfl) ?_ | refine ko_steps mi_in117 2 _ (110, [(7, .ref 114), (6, .ref 112), (0, .ref 0), (1, .int x1), (2, .int x2), (3, .int x3), (4, .int x4), (5, .int x5)], [.int (-13)], (0, 0), ks i a q r) (by rfl) ?_
                      exact ft_ret mi_k117 (by rfl) (hP (-13) _ _ _ _ hG trivial)
                  ·
                    have c548 : (i 7170).toInt ≠ (i 7298).toInt := kd_eqF c; clear c
                    first | refine ft_go mi_k117 1 84 [(7, .ref 114), (6, .ref 112), (0, .ref 0), (1, .int x1), (2, .int x2), (3, .int x3), (4, .int x4), (5, .int x5)] [.int (-12)] i a q r (by rfl) ?_ | refine ko_steps mi_in117 1 _ (84, [(7, .ref 114), (6, .ref 112), (0, .ref 0), (1, .int x1), (2, .int x2), (3, .int x3), (4, .int x4), (5, .int x5)], [.int (-12)], (0, 0), ks i a q r) (by rfl) ?_
                    exact ft_ret mi_k117 (by rfl) (hP (-12) _ _ _ _ hG trivial)
            ·
              have c549 : (i 7296).toInt = (0 : Int32).toInt := kd_neF c; clear c
              first | refine ft_go mi_k117 1 50 [(7, .ref 114), (6, .ref 112), (0, .ref 0), (1, .int x1), (2, .int x2), (3, .int x3), (4, .int x4), (5, .int x5)] [.int (-11)] i a q r (by rfl) ?_ | refine ko_steps mi_in117 1 _ (50, [(7, .ref 114), (6, .ref 112), (0, .ref 0), (1, .int x1), (2, .int x2), (3, .int x3), (4, .int x4), (5, .int x5)], [.int (-11)], (0, 0), ks i a q r) (by rfl) ?_
              exact ft_ret mi_k117 (by rfl) (hP (-11) _ _ _ _ hG trivial)
        exact (oz1245 w442 w460 w478 w496 w514 w532 z4.1 z4.2).elim
      by_cases w550 : x1.toInt = 5
      ·
        refine ko_eq (x1 := (21, [(0, .ref 0), (1, .int x1), (2, .int x2), (3, .int x3), (4, .int x4), (5, .int x5)], [.int 5, .ref 97], (0, 0), ks i a q r)) (by rw [(kj_eq w550 (by decide) : x1 = 5)]) ?_
        first | refine ft_go mi_k117 5 29 [(6, .ref 114), (0, .ref 0), (1, .int x1), (2, .int x2), (3, .int x3), (4, .int x4), (5, .int x5)] [.int x3, .ref 97] i a q r (by rfl) ?_ | refine ko_steps mi_in117 5 _ (29, [(6, .ref 114), (0, .ref 0), (1, .int x1), (2, .int x2), (3, .int x3), (4, .int x4), (5, .int x5)], [.int x3, .ref 97], (0, 0), ks i a q r) (by rfl) ?_
        by_cases w551 : x3.toInt = 0
        ·
          refine ko_eq (x1 := (29, [(6, .ref 114), (0, .ref 0), (1, .int x1), (2, .int x2), (3, .int x3), (4, .int x4), (5, .int x5)], [.int 0, .ref 97], (0, 0), ks i a q r)) (by rw [(kj_eq w551 (by decide) : x3 = 0)]) ?_
          have fi_7296 : ((0 : Int) ≤ (i 7296).toInt) ∧ ((i 7296).toInt ≤ 2) := hG.I.1 7296
          first | refine ft_go mi_k117 4 37 [(7, .ref 104), (6, .ref 114), (0, .ref 0), (1, .int x1), (2, .int x2), (3, .int x3), (4, .int x4), (5, .int x5)] [.int (i 7296)] i a q r (by rfl) ?_ | refine ko_steps mi_in117 4 _ (37, [(7, .ref 104), (6, .ref 114), (0, .ref 0), (1, .int x1), (2, .int x2), (3, .int x3), (4, .int x4), (5, .int x5)], [.int (i 7296)], (0, 0), ks i a q r) (by rfl) ?_
          refine ft_if mi_k117 ((i 7296) == 0) 48 40 [(7, .ref 104), (6, .ref 114), (0, .ref 0), (1, .int x1), (2, .int x2), (3, .int x3), (4, .int x4), (5, .int x5)] [] (by rfl) (fun c => ?_) (fun c => ?_)
          ·
            have c552 : (i 7296).toInt = (0 : Int32).toInt := kd_eq c; clear c
            first | refine ft_go mi_k117 1 50 [(7, .ref 104), (6, .ref 114), (0, .ref 0), (1, .int x1), (2, .int x2), (3, .int x3), (4, .int x4), (5, .int x5)] [.int (-11)] i a q r (by rfl) ?_ | refine ko_steps mi_in117 1 _ (50, [(7, .ref 104), (6, .ref 114), (0, .ref 0), (1, .int x1), (2, .int x2), (3, .int x3), (4, .int x4), (5, .int x5)], [.int (-11)], (0, 0), ks i a q r) (by rfl) ?_
            exact ft_ret mi_k117 (by rfl) (hP (-11) _ _ _ _ hG trivial)
          ·
            have c553 : (i 7296).toInt ≠ (0 : Int32).toInt := kd_eqF c; clear c
            have fi_6656 : ((0 : Int) ≤ (i 6656).toInt) ∧ ((i 6656).toInt ≤ 2) := hG.I.1 6656
            first | refine ft_go mi_k117 2 45 [(7, .ref 104), (6, .ref 114), (0, .ref 0), (1, .int x1), (2, .int x2), (3, .int x3), (4, .int x4), (5, .int x5)] [.int (i 6656)] i a q r (by rfl) ?_ | refine ko_steps mi_in117 2 _ (45, [(7, .ref 104), (6, .ref 114), (0, .ref 0), (1, .int x1), (2, .int x2), (3, .int x3), (4, .int x4), (5, .int x5)], [.int (i 6656)], (0, 0), ks i a q r) (by rfl) ?_
            refine ft_if mi_k117 ((i 6656) != 0) 51 48 [(7, .ref 104), (6, .ref 114), (0, .ref 0), (1, .int x1), (2, .int x2), (3, .int x3), (4, .int x4), (5, .int x5)] [] (by rfl) (fun c => ?_) (fun c => ?_)
            ·
              have c554 : (i 6656).toInt ≠ (0 : Int32).toInt := kd_ne c; clear c
              first | refine ft_go mi_k117 3 57 [(7, .ref 104), (6, .ref 114), (0, .ref 0), (1, .int x1), (2, .int x2), (3, .int x3), (4, .int x4), (5, .int x5)] [.int 2, .int (i 7296)] i a q r (by rfl) ?_ | refine ko_steps mi_in117 3 _ (57, [(7, .ref 104), (6, .ref 114), (0, .ref 0), (1, .int x1), (2, .int x2), (3, .int x3), (4, .int x4), (5, .int x5)], [.int 2, .int (i 7296)], (0, 0), ks i a q r) (by rfl) ?_
              refine ft_if mi_k117 ((i 7296) != 2) 82 60 [(7, .ref 104), (6, .ref 114), (0, .ref 0), (1, .int x1), (2, .int x2), (3, .int x3), (4, .int x4), (5, .int x5)] [] (by rfl) (fun c => ?_) (fun c => ?_)
              ·
                have c555 : (i 7296).toInt ≠ (2 : Int32).toInt := kd_ne c; clear c
                first | refine ft_go mi_k117 1 84 [(7, .ref 104), (6, .ref 114), (0, .ref 0), (1, .int x1), (2, .int x2), (3, .int x3), (4, .int x4), (5, .int x5)] [.int (-12)] i a q r (by rfl) ?_ | refine ko_steps mi_in117 1 _ (84, [(7, .ref 104), (6, .ref 114), (0, .ref 0), (1, .int x1), (2, .int x2), (3, .int x3), (4, .int x4), (5, .int x5)], [.int (-12)], (0, 0), ks i a q r) (by rfl) ?_
                exact ft_ret mi_k117 (by rfl) (hP (-12) _ _ _ _ hG trivial)
              ·
                have c556 : (i 7296).toInt = (2 : Int32).toInt := kd_neF c; clear c
                first | refine ft_go mi_k117 3 66 [(7, .ref 104), (6, .ref 114), (0, .ref 0), (1, .int x1), (2, .int x2), (3, .int x3), (4, .int x4), (5, .int x5)] [.int 2, .int (i 6656)] i a q r (by rfl) ?_ | refine ko_steps mi_in117 3 _ (66, [(7, .ref 104), (6, .ref 114), (0, .ref 0), (1, .int x1), (2, .int x2), (3, .int x3), (4, .int x4), (5, .int x5)], [.int 2, .int (i 6656)], (0, 0), ks i a q r) (by rfl) ?_
                refine ft_if mi_k117 ((i 6656) != 2) 82 69 [(7, .ref 104), (6, .ref 114), (0, .ref 0), (1, .int x1), (2, .int x2), (3, .int x3), (4, .int x4), (5, .int x5)] [] (by rfl) (fun c => ?_) (fun c => ?_)
                ·
                  have c557 : (i 6656).toInt ≠ (2 : Int32).toInt := kd_ne c; clear c
                  first | refine ft_go mi_k117 1 84 [(7, .ref 104), (6, .ref 114), (0, .ref 0), (1, .int x1), (2, .int x2), (3, .int x3), (4, .int x4), (5, .int x5)] [.int (-12)] i a q r (by rfl) ?_ | refine ko_steps mi_in117 1 _ (84, [(7, .ref 104), (6, .ref 114), (0, .ref 0), (1, .int x1), (2, .int x2), (3, .int x3), (4, .int x4), (5, .int x5)], [.int (-12)], (0, 0), ks i a q r) (by rfl) ?_
                  exact ft_ret mi_k117 (by rfl) (hP (-12) _ _ _ _ hG trivial)
                ·
                  have c558 : (i 6656).toInt = (2 : Int32).toInt := kd_neF c; clear c
                  have fi_7298 : ((0 : Int) ≤ (i 7298).toInt) ∧ ((i 7298).toInt ≤ 4) := hG.I.1 7298
                  have fi_6658 : ((0 : Int) ≤ (i 6658).toInt) ∧ ((i 6658).toInt ≤ 4) := hG.I.1 6658
                  first | refine ft_go mi_k117 4 79 [(7, .ref 104), (6, .ref 114), (0, .ref 0), (1, .int x1), (2, .int x2), (3, .int x3), (4, .int x4), (5, .int x5)] [.int (i 6658), .int (i 7298)] i a q r (by rfl) ?_ | refine ko_steps mi_in117 4 _ (79, [(7, .ref 104), (6, .ref 114), (0, .ref 0), (1, .int x1), (2, .int x2), (3, .int x3), (4, .int x4), (5, .int x5)], [.int (i 6658), .int (i 7298)], (0, 0), ks i a q r) (by rfl) ?_
                  refine ft_if mi_k117 ((i 7298) == (i 6658)) 85 82 [(7, .ref 104), (6, .ref 114), (0, .ref 0), (1, .int x1), (2, .int x2), (3, .int x3), (4, .int x4), (5, .int x5)] [] (by rfl) (fun c => ?_) (fun c => ?_)
                  ·
                    have c559 : (i 7298).toInt = (i 6658).toInt := kd_eq c; clear c
                    first | refine ft_go mi_k117 3 90 [(7, .ref 104), (6, .ref 114), (0, .ref 0), (1, .int x1), (2, .int x2), (3, .int x3), (4, .int x4), (5, .int x5)] [.int x5, .int x2, .ref 114] i a q r (by rfl) ?_ | refine ko_steps mi_in117 3 _ (90, [(7, .ref 104), (6, .ref 114), (0, .ref 0), (1, .int x1), (2, .int x2), (3, .int x3), (4, .int x4), (5, .int x5)], [.int x5, .int x2, .ref 114], (0, 0), ks i a q r) (by rfl) ?_
                    refine ko_callPI mi_k117.1 (pc := 90) (ls := [(7, .ref 104), (6, .ref 114), (0, .ref 0), (1, .int x1), (2, .int x2), (3, .int x3), (4, .int x4), (5, .int x5)]) (st := [.int x5, .int x2, .ref 114]) (h := ks i a q r) (i := (.invokevirtual 324, 3, 37, 0, 9, 0, 316)) (mi_k117.2 _ _ (by rfl)) (ft_invS mi_pq37 (by rfl)) (cy := mi_c37) mi_pq37 rfl (kc37_114 hG.I hG.R x2 x5) (by decide) ?_
                    intro vg560 hg560
                    rcases hg560 with ⟨eg560, hg560⟩ | ⟨eg560, hg560⟩
                    ·
                      subst eg560
                      have fi_7299 : ((0 : Int) ≤ (i 7299).toInt) ∧ ((i 7299).toInt ≤ 60) := hG.I.1 7299
                      have z561 : ((0 : Int) ≤ x5.toInt) ∧ (x5.toInt ≤ (i 7299).toInt) ∧ ((0 : Int) ≤ x2.toInt) ∧ ((x2.toInt + x5.toInt) ≤ (i 7299).toInt) := hg560
                      first | refine ft_go mi_k117 4 102 [(7, .ref 104), (6, .ref 114), (0, .ref 0), (1, .int x1), (2, .int x2), (3, .int x3), (4, .int x4), (5, .int x5)] [.int x5, .int x4, .ref 104] i a q r (by rfl) ?_ | refine ko_steps mi_in117 4 _ (102, [(7, .ref 104), (6, .ref 114), (0, .ref 0), (1, .int x1), (2, .int x2), (3, .int x3), (4, .int x4), (5, .int x5)], [.int x5, .int x4, .ref 104], (0, 0), ks i a q r) (by rfl) ?_
                      refine ko_callPI mi_k117.1 (pc := 102) (ls := [(7, .ref 104), (6, .ref 114), (0, .ref 0), (1, .int x1), (2, .int x2), (3, .int x3), (4, .int x4), (5, .int x5)]) (st := [.int x5, .int x4, .ref 104]) (h := ks i a q r) (i := (.invokevirtual 324, 3, 37, 0, 9, 0, 316)) (mi_k117.2 _ _ (by rfl)) (ft_invS mi_pq37 (by rfl)) (cy := mi_c37) mi_pq37 rfl (kc37_104 hG.I hG.R x4 x5) (by decide) ?_
                      intro vg562 hg562
                      rcases hg562 with ⟨eg562, hg562⟩ | ⟨eg562, hg562⟩
                      ·
                        subst eg562
                        have fi_6659 : ((0 : Int) ≤ (i 6659).toInt) ∧ ((i 6659).toInt ≤ 60) := hG.I.1 6659
                        have z563 : ((0 : Int) ≤ x5.toInt) ∧ (x5.toInt ≤ (i 6659).toInt) ∧ ((0 : Int) ≤ x4.toInt) ∧ ((x4.toInt + x5.toInt) ≤ (i 6659).toInt) := hg562
                        first | refine ft_go mi_k117 8 126 [(7, .ref 104), (6, .ref 114), (0, .ref 0), (1, .int x1), (2, .int x2), (3, .int x3), (4, .int x4), (5, .int x5)] [.int x5, .int x4, .ref 105, .int x2, .ref 115] i a q r (by rfl) ?_ | refine ko_steps mi_in117 8 _ (126, [(7, .ref 104), (6, .ref 114), (0, .ref 0), (1, .int x1), (2, .int x2), (3, .int x3), (4, .int x4), (5, .int x5)], [.int x5, .int x4, .ref 105, .int x2, .ref 115], (0, 0), ks i a q r) (by rfl) ?_
                        have hJ564 := kG_q hG 105 rfl (z := mi_cpy (q 115) (q 105) x2.toNatClampNeg x4.toNatClampNeg x5.toNatClampNeg) (kcpy_len2 (n := 60) (c := 60) (m := 60) (b := 60) (sp := x2) (dp := x4) (n1 := x5) (hG.I.2.2.2 115) rfl (hG.I.2.2.2 105) rfl (oz3 z561.1) (oz3 z561.2.2.1) (oz3 z563.2.2.1) (oz1278 fi_7299.2 z561.2.2.2) (oz1278 fi_6659.2 z563.2.2.2))
                        refine ko_copyL2 mi_k117.1 (l := q 115) (g := q 105) (n := 60) (c := 60) (m := 60) (b := 60) (mi_k117.2 _ _ (by rfl)) (by rfl) (by rfl) (by rfl) (by rfl) (by rfl) (hG.I.2.2.2 115) rfl (hG.I.2.2.2 105) rfl (oz3 z561.1) (oz3 z561.2.2.1) (oz3 z563.2.2.1) (oz1278 fi_7299.2 z561.2.2.2) (oz1278 fi_6659.2 z563.2.2.2) (h5 := ks i a (ku q 105 (mi_cpy (q 115) (q 105) x2.toNatClampNeg x4.toNatClampNeg x5.toNatClampNeg)) r) (by rfl) ?_
                        first | refine ft_go mi_k117 1 131 [(7, .ref 104), (6, .ref 114), (0, .ref 0), (1, .int x1), (2, .int x2), (3, .int x3), (4, .int x4), (5, .int x5)] [.int x5] i a (ku q 105 (mi_cpy (q 115) (q 105) x2.toNatClampNeg x4.toNatClampNeg x5.toNatClampNeg)) r (by rfl) ?_ | refine ko_steps mi_in117 1 _ (131, [(7, .ref 104), (6, .ref 114), (0, .ref 0), (1, .int x1), (2, .int x2), (3, .int x3), (4, .int x4), (5, .int x5)], [.int x5], (0, 0), ks i a (ku q 105 (mi_cpy (q 115) (q 105) x2.toNatClampNeg x4.toNatClampNeg x5.toNatClampNeg)) r) (by rfl) ?_
                        exact ft_ret mi_k117 (by rfl) (hP x5 _ _ _ _ hJ564 trivial)
                      ·
                        subst eg562
                        have fi_6659 : ((0 : Int) ≤ (i 6659).toInt) ∧ ((i 6659).toInt ≤ 60) := hG.I.1 6659
                        have z565 : ¬ (((0 : Int) ≤ x5.toInt) ∧ (x5.toInt ≤ (i 6659).toInt) ∧ ((0 : Int) ≤ x4.toInt) ∧ ((x4.toInt + x5.toInt) ≤ (i 6659).toInt)) := hg562
                        first | refine ft_go mi_k117 2 110 [(7, .ref 104), (6, .ref 114), (0, .ref 0), (1, .int x1), (2, .int x2), (3, .int x3), (4, .int x4), (5, .int x5)] [.int (-13)] i a q r (by rfl) ?_ | refine ko_steps mi_in117 2 _ (110, [(7, .ref 104), (6, .ref 114), (0, .ref 0), (1, .int x1), (2, .int x2), (3, .int x3), (4, .int x4), (5, .int x5)], [.int (-13)], (0, 0), ks i a q r) (by rfl) ?_
                        exact ft_ret mi_k117 (by rfl) (hP (-13) _ _ _ _ hG trivial)
                    ·
                      subst eg560
                      have fi_7299 : ((0 : Int) ≤ (i 7299).toInt) ∧ ((i 7299).toInt ≤ 60) := hG.I.1 7299
                      have z566 : ¬ (((0 : Int) ≤ x5.toInt) ∧ (x5.toInt ≤ (i 7299).toInt) ∧ ((0 : Int) ≤ x2.toInt) ∧ ((x2.toInt + x5.toInt) ≤ (i 7299).toInt)) := hg560
                      first | refine ft_go mi_k117 2 110 [(7, .ref 104), (6, .ref 114), (0, .ref 0), (1, .int x1), (2, .int x2), (3, .int x3), (4, .int x4), (5, .int x5)] [.int (-13)] i a q r (by rfl) ?_ | refine ko_steps mi_in117 2 _ (110, [(7, .ref 104), (6, .ref 114), (0, .ref 0), (1, .int x1), (2, .int x2), (3, .int x3), (4, .int x4), (5, .int x5)], [.int (-13)], (0, 0), ks i a q r) (by rfl) ?_
                      exact ft_ret mi_k117 (by rfl) (hP (-13) _ _ _ _ hG trivial)
                  ·
                    have c567 : (i 7298).toInt ≠ (i 6658).toInt := kd_eqF c; clear c
                    first | refine ft_go mi_k117 1 84 [(7, .ref 104), (6, .ref 114), (0, .ref 0), (1, .int x1), (2, .int x2), (3, .int x3), (4, .int x4), (5, .int x5)] [.int (-12)] i a q r (by rfl) ?_ | refine ko_steps mi_in117 1 _ (84, [(7, .ref 104), (6, .ref 114), (0, .ref 0), (1, .int x1), (2, .int x2), (3, .int x3), (4, .int x4), (5, .int x5)], [.int (-12)], (0, 0), ks i a q r) (by rfl) ?_
                    exact ft_ret mi_k117 (by rfl) (hP (-12) _ _ _ _ hG trivial)
            ·
              have c568 : (i 6656).toInt = (0 : Int32).toInt := kd_neF c; clear c
              first | refine ft_go mi_k117 1 50 [(7, .ref 104), (6, .ref 114), (0, .ref 0), (1, .int x1), (2, .int x2), (3, .int x3), (4, .int x4), (5, .int x5)] [.int (-11)] i a q r (by rfl) ?_ | refine ko_steps mi_in117 1 _ (50, [(7, .ref 104), (6, .ref 114), (0, .ref 0), (1, .int x1), (2, .int x2), (3, .int x3), (4, .int x4), (5, .int x5)], [.int (-11)], (0, 0), ks i a q r) (by rfl) ?_
              exact ft_ret mi_k117 (by rfl) (hP (-11) _ _ _ _ hG trivial)
        by_cases w569 : x3.toInt = 1
        ·
          refine ko_eq (x1 := (29, [(6, .ref 114), (0, .ref 0), (1, .int x1), (2, .int x2), (3, .int x3), (4, .int x4), (5, .int x5)], [.int 1, .ref 97], (0, 0), ks i a q r)) (by rw [(kj_eq w569 (by decide) : x3 = 1)]) ?_
          have fi_7296 : ((0 : Int) ≤ (i 7296).toInt) ∧ ((i 7296).toInt ≤ 2) := hG.I.1 7296
          first | refine ft_go mi_k117 4 37 [(7, .ref 106), (6, .ref 114), (0, .ref 0), (1, .int x1), (2, .int x2), (3, .int x3), (4, .int x4), (5, .int x5)] [.int (i 7296)] i a q r (by rfl) ?_ | refine ko_steps mi_in117 4 _ (37, [(7, .ref 106), (6, .ref 114), (0, .ref 0), (1, .int x1), (2, .int x2), (3, .int x3), (4, .int x4), (5, .int x5)], [.int (i 7296)], (0, 0), ks i a q r) (by rfl) ?_
          refine ft_if mi_k117 ((i 7296) == 0) 48 40 [(7, .ref 106), (6, .ref 114), (0, .ref 0), (1, .int x1), (2, .int x2), (3, .int x3), (4, .int x4), (5, .int x5)] [] (by rfl) (fun c => ?_) (fun c => ?_)
          ·
            have c570 : (i 7296).toInt = (0 : Int32).toInt := kd_eq c; clear c
            first | refine ft_go mi_k117 1 50 [(7, .ref 106), (6, .ref 114), (0, .ref 0), (1, .int x1), (2, .int x2), (3, .int x3), (4, .int x4), (5, .int x5)] [.int (-11)] i a q r (by rfl) ?_ | refine ko_steps mi_in117 1 _ (50, [(7, .ref 106), (6, .ref 114), (0, .ref 0), (1, .int x1), (2, .int x2), (3, .int x3), (4, .int x4), (5, .int x5)], [.int (-11)], (0, 0), ks i a q r) (by rfl) ?_
            exact ft_ret mi_k117 (by rfl) (hP (-11) _ _ _ _ hG trivial)
          ·
            have c571 : (i 7296).toInt ≠ (0 : Int32).toInt := kd_eqF c; clear c
            have fi_6784 : ((0 : Int) ≤ (i 6784).toInt) ∧ ((i 6784).toInt ≤ 2) := hG.I.1 6784
            first | refine ft_go mi_k117 2 45 [(7, .ref 106), (6, .ref 114), (0, .ref 0), (1, .int x1), (2, .int x2), (3, .int x3), (4, .int x4), (5, .int x5)] [.int (i 6784)] i a q r (by rfl) ?_ | refine ko_steps mi_in117 2 _ (45, [(7, .ref 106), (6, .ref 114), (0, .ref 0), (1, .int x1), (2, .int x2), (3, .int x3), (4, .int x4), (5, .int x5)], [.int (i 6784)], (0, 0), ks i a q r) (by rfl) ?_
            refine ft_if mi_k117 ((i 6784) != 0) 51 48 [(7, .ref 106), (6, .ref 114), (0, .ref 0), (1, .int x1), (2, .int x2), (3, .int x3), (4, .int x4), (5, .int x5)] [] (by rfl) (fun c => ?_) (fun c => ?_)
            ·
              have c572 : (i 6784).toInt ≠ (0 : Int32).toInt := kd_ne c; clear c
              first | refine ft_go mi_k117 3 57 [(7, .ref 106), (6, .ref 114), (0, .ref 0), (1, .int x1), (2, .int x2), (3, .int x3), (4, .int x4), (5, .int x5)] [.int 2, .int (i 7296)] i a q r (by rfl) ?_ | refine ko_steps mi_in117 3 _ (57, [(7, .ref 106), (6, .ref 114), (0, .ref 0), (1, .int x1), (2, .int x2), (3, .int x3), (4, .int x4), (5, .int x5)], [.int 2, .int (i 7296)], (0, 0), ks i a q r) (by rfl) ?_
              refine ft_if mi_k117 ((i 7296) != 2) 82 60 [(7, .ref 106), (6, .ref 114), (0, .ref 0), (1, .int x1), (2, .int x2), (3, .int x3), (4, .int x4), (5, .int x5)] [] (by rfl) (fun c => ?_) (fun c => ?_)
              ·
                have c573 : (i 7296).toInt ≠ (2 : Int32).toInt := kd_ne c; clear c
                first | refine ft_go mi_k117 1 84 [(7, .ref 106), (6, .ref 114), (0, .ref 0), (1, .int x1), (2, .int x2), (3, .int x3), (4, .int x4), (5, .int x5)] [.int (-12)] i a q r (by rfl) ?_ | refine ko_steps mi_in117 1 _ (84, [(7, .ref 106), (6, .ref 114), (0, .ref 0), (1, .int x1), (2, .int x2), (3, .int x3), (4, .int x4), (5, .int x5)], [.int (-12)], (0, 0), ks i a q r) (by rfl) ?_
                exact ft_ret mi_k117 (by rfl) (hP (-12) _ _ _ _ hG trivial)
              ·
                have c574 : (i 7296).toInt = (2 : Int32).toInt := kd_neF c; clear c
                first | refine ft_go mi_k117 3 66 [(7, .ref 106), (6, .ref 114), (0, .ref 0), (1, .int x1), (2, .int x2), (3, .int x3), (4, .int x4), (5, .int x5)] [.int 2, .int (i 6784)] i a q r (by rfl) ?_ | refine ko_steps mi_in117 3 _ (66, [(7, .ref 106), (6, .ref 114), (0, .ref 0), (1, .int x1), (2, .int x2), (3, .int x3), (4, .int x4), (5, .int x5)], [.int 2, .int (i 6784)], (0, 0), ks i a q r) (by rfl) ?_
                refine ft_if mi_k117 ((i 6784) != 2) 82 69 [(7, .ref 106), (6, .ref 114), (0, .ref 0), (1, .int x1), (2, .int x2), (3, .int x3), (4, .int x4), (5, .int x5)] [] (by rfl) (fun c => ?_) (fun c => ?_)
                ·
                  have c575 : (i 6784).toInt ≠ (2 : Int32).toInt := kd_ne c; clear c
                  first | refine ft_go mi_k117 1 84 [(7, .ref 106), (6, .ref 114), (0, .ref 0), (1, .int x1), (2, .int x2), (3, .int x3), (4, .int x4), (5, .int x5)] [.int (-12)] i a q r (by rfl) ?_ | refine ko_steps mi_in117 1 _ (84, [(7, .ref 106), (6, .ref 114), (0, .ref 0), (1, .int x1), (2, .int x2), (3, .int x3), (4, .int x4), (5, .int x5)], [.int (-12)], (0, 0), ks i a q r) (by rfl) ?_
                  exact ft_ret mi_k117 (by rfl) (hP (-12) _ _ _ _ hG trivial)
                ·
                  have c576 : (i 6784).toInt = (2 : Int32).toInt := kd_neF c; clear c
                  have fi_7298 : ((0 : Int) ≤ (i 7298).toInt) ∧ ((i 7298).toInt ≤ 4) := hG.I.1 7298
                  have fi_6786 : ((0 : Int) ≤ (i 6786).toInt) ∧ ((i 6786).toInt ≤ 4) := hG.I.1 6786
                  first | refine ft_go mi_k117 4 79 [(7, .ref 106), (6, .ref 114), (0, .ref 0), (1, .int x1), (2, .int x2), (3, .int x3), (4, .int x4), (5, .int x5)] [.int (i 6786), .int (i 7298)] i a q r (by rfl) ?_ | refine ko_steps mi_in117 4 _ (79, [(7, .ref 106), (6, .ref 114), (0, .ref 0), (1, .int x1), (2, .int x2), (3, .int x3), (4, .int x4), (5, .int x5)], [.int (i 6786), .int (i 7298)], (0, 0), ks i a q r) (by rfl) ?_
                  refine ft_if mi_k117 ((i 7298) == (i 6786)) 85 82 [(7, .ref 106), (6, .ref 114), (0, .ref 0), (1, .int x1), (2, .int x2), (3, .int x3), (4, .int x4), (5, .int x5)] [] (by rfl) (fun c => ?_) (fun c => ?_)
                  ·
                    have c577 : (i 7298).toInt = (i 6786).toInt := kd_eq c; clear c
                    first | refine ft_go mi_k117 3 90 [(7, .ref 106), (6, .ref 114), (0, .ref 0), (1, .int x1), (2, .int x2), (3, .int x3), (4, .int x4), (5, .int x5)] [.int x5, .int x2, .ref 114] i a q r (by rfl) ?_ | refine ko_steps mi_in117 3 _ (90, [(7, .ref 106), (6, .ref 114), (0, .ref 0), (1, .int x1), (2, .int x2), (3, .int x3), (4, .int x4), (5, .int x5)], [.int x5, .int x2, .ref 114], (0, 0), ks i a q r) (by rfl) ?_
                    refine ko_callPI mi_k117.1 (pc := 90) (ls := [(7, .ref 106), (6, .ref 114), (0, .ref 0), (1, .int x1), (2, .int x2), (3, .int x3), (4, .int x4), (5, .int x5)]) (st := [.int x5, .int x2, .ref 114]) (h := ks i a q r) (i := (.invokevirtual 324, 3, 37, 0, 9, 0, 316)) (mi_k117.2 _ _ (by rfl)) (ft_invS mi_pq37 (by rfl)) (cy := mi_c37) mi_pq37 rfl (kc37_114 hG.I hG.R x2 x5) (by decide) ?_
                    intro vg578 hg578
                    rcases hg578 with ⟨eg578, hg578⟩ | ⟨eg578, hg578⟩
                    ·
                      subst eg578
                      have fi_7299 : ((0 : Int) ≤ (i 7299).toInt) ∧ ((i 7299).toInt ≤ 60) := hG.I.1 7299
                      have z579 : ((0 : Int) ≤ x5.toInt) ∧ (x5.toInt ≤ (i 7299).toInt) ∧ ((0 : Int) ≤ x2.toInt) ∧ ((x2.toInt + x5.toInt) ≤ (i 7299).toInt) := hg578
                      first | refine ft_go mi_k117 4 102 [(7, .ref 106), (6, .ref 114), (0, .ref 0), (1, .int x1), (2, .int x2), (3, .int x3), (4, .int x4), (5, .int x5)] [.int x5, .int x4, .ref 106] i a q r (by rfl) ?_ | refine ko_steps mi_in117 4 _ (102, [(7, .ref 106), (6, .ref 114), (0, .ref 0), (1, .int x1), (2, .int x2), (3, .int x3), (4, .int x4), (5, .int x5)], [.int x5, .int x4, .ref 106], (0, 0), ks i a q r) (by rfl) ?_
                      refine ko_callPI mi_k117.1 (pc := 102) (ls := [(7, .ref 106), (6, .ref 114), (0, .ref 0), (1, .int x1), (2, .int x2), (3, .int x3), (4, .int x4), (5, .int x5)]) (st := [.int x5, .int x4, .ref 106]) (h := ks i a q r) (i := (.invokevirtual 324, 3, 37, 0, 9, 0, 316)) (mi_k117.2 _ _ (by rfl)) (ft_invS mi_pq37 (by rfl)) (cy := mi_c37) mi_pq37 rfl (kc37_106 hG.I hG.R x4 x5) (by decide) ?_
                      intro vg580 hg580
                      rcases hg580 with ⟨eg580, hg580⟩ | ⟨eg580, hg580⟩
                      ·
                        subst eg580
                        have fi_6787 : ((0 : Int) ≤ (i 6787).toInt) ∧ ((i 6787).toInt ≤ 60) := hG.I.1 6787
                        have z581 : ((0 : Int) ≤ x5.toInt) ∧ (x5.toInt ≤ (i 6787).toInt) ∧ ((0 : Int) ≤ x4.toInt) ∧ ((x4.toInt + x5.toInt) ≤ (i 6787).toInt) := hg580
                        first | refine ft_go mi_k117 8 126 [(7, .ref 106), (6, .ref 114), (0, .ref 0), (1, .int x1), (2, .int x2), (3, .int x3), (4, .int x4), (5, .int x5)] [.int x5, .int x4, .ref 107, .int x2, .ref 115] i a q r (by rfl) ?_ | refine ko_steps mi_in117 8 _ (126, [(7, .ref 106), (6, .ref 114), (0, .ref 0), (1, .int x1), (2, .int x2), (3, .int x3), (4, .int x4), (5, .int x5)], [.int x5, .int x4, .ref 107, .int x2, .ref 115], (0, 0), ks i a q r) (by rfl) ?_
                        have hJ582 := kG_q hG 107 rfl (z := mi_cpy (q 115) (q 107) x2.toNatClampNeg x4.toNatClampNeg x5.toNatClampNeg) (kcpy_len2 (n := 60) (c := 60) (m := 60) (b := 60) (sp := x2) (dp := x4) (n1 := x5) (hG.I.2.2.2 115) rfl (hG.I.2.2.2 107) rfl (oz3 z579.1) (oz3 z579.2.2.1) (oz3 z581.2.2.1) (oz1278 fi_7299.2 z579.2.2.2) (oz1278 fi_6787.2 z581.2.2.2))
                        refine ko_copyL2 mi_k117.1 (l := q 115) (g := q 107) (n := 60) (c := 60) (m := 60) (b := 60) (mi_k117.2 _ _ (by rfl)) (by rfl) (by rfl) (by rfl) (by rfl) (by rfl) (hG.I.2.2.2 115) rfl (hG.I.2.2.2 107) rfl (oz3 z579.1) (oz3 z579.2.2.1) (oz3 z581.2.2.1) (oz1278 fi_7299.2 z579.2.2.2) (oz1278 fi_6787.2 z581.2.2.2) (h5 := ks i a (ku q 107 (mi_cpy (q 115) (q 107) x2.toNatClampNeg x4.toNatClampNeg x5.toNatClampNeg)) r) (by rfl) ?_
                        first | refine ft_go mi_k117 1 131 [(7, .ref 106), (6, .ref 114), (0, .ref 0), (1, .int x1), (2, .int x2), (3, .int x3), (4, .int x4), (5, .int x5)] [.int x5] i a (ku q 107 (mi_cpy (q 115) (q 107) x2.toNatClampNeg x4.toNatClampNeg x5.toNatClampNeg)) r (by rfl) ?_ | refine ko_steps mi_in117 1 _ (131, [(7, .ref 106), (6, .ref 114), (0, .ref 0), (1, .int x1), (2, .int x2), (3, .int x3), (4, .int x4), (5, .int x5)], [.int x5], (0, 0), ks i a (ku q 107 (mi_cpy (q 115) (q 107) x2.toNatClampNeg x4.toNatClampNeg x5.toNatClampNeg)) r) (by rfl) ?_
                        exact ft_ret mi_k117 (by rfl) (hP x5 _ _ _ _ hJ582 trivial)
                      ·
                        subst eg580
                        have fi_6787 : ((0 : Int) ≤ (i 6787).toInt) ∧ ((i 6787).toInt ≤ 60) := hG.I.1 6787
                        have z583 : ¬ (((0 : Int) ≤ x5.toInt) ∧ (x5.toInt ≤ (i 6787).toInt) ∧ ((0 : Int) ≤ x4.toInt) ∧ ((x4.toInt + x5.toInt) ≤ (i 6787).toInt)) := hg580
                        first | refine ft_go mi_k117 2 110 [(7, .ref 106), (6, .ref 114), (0, .ref 0), (1, .int x1), (2, .int x2), (3, .int x3), (4, .int x4), (5, .int x5)] [.int (-13)] i a q r (by rfl) ?_ | refine ko_steps mi_in117 2 _ (110, [(7, .ref 106), (6, .ref 114), (0, .ref 0), (1, .int x1), (2, .int x2), (3, .int x3), (4, .int x4), (5, .int x5)], [.int (-13)], (0, 0), ks i a q r) (by rfl) ?_
                        exact ft_ret mi_k117 (by rfl) (hP (-13) _ _ _ _ hG trivial)
                    ·
                      subst eg578
                      have fi_7299 : ((0 : Int) ≤ (i 7299).toInt) ∧ ((i 7299).toInt ≤ 60) := hG.I.1 7299
                      have z584 : ¬ (((0 : Int) ≤ x5.toInt) ∧ (x5.toInt ≤ (i 7299).toInt) ∧ ((0 : Int) ≤ x2.toInt) ∧ ((x2.toInt + x5.toInt) ≤ (i 7299).toInt)) := hg578
                      first | refine ft_go mi_k117 2 110 [(7, .ref 106), (6, .ref 114), (0, .ref 0), (1, .int x1), (2, .int x2), (3, .int x3), (4, .int x4), (5, .int x5)] [.int (-13)] i a q r (by rfl) ?_ | refine ko_steps mi_in117 2 _ (110, [(7, .ref 106), (6, .ref 114), (0, .ref 0), (1, .int x1), (2, .int x2), (3, .int x3), (4, .int x4), (5, .int x5)], [.int (-13)], (0, 0), ks i a q r) (by rfl) ?_
                      exact ft_ret mi_k117 (by rfl) (hP (-13) _ _ _ _ hG trivial)
                  ·
                    have c585 : (i 7298).toInt ≠ (i 6786).toInt := kd_eqF c; clear c
                    first | refine ft_go mi_k117 1 84 [(7, .ref 106), (6, .ref 114), (0, .ref 0), (1, .int x1), (2, .int x2), (3, .int x3), (4, .int x4), (5, .int x5)] [.int (-12)] i a q r (by rfl) ?_ | refine ko_steps mi_in117 1 _ (84, [(7, .ref 106), (6, .ref 114), (0, .ref 0), (1, .int x1), (2, .int x2), (3, .int x3), (4, .int x4), (5, .int x5)], [.int (-12)], (0, 0), ks i a q r) (by rfl) ?_
                    exact ft_ret mi_k117 (by rfl) (hP (-12) _ _ _ _ hG trivial)
            ·
              have c586 : (i 6784).toInt = (0 : Int32).toInt := kd_neF c; clear c
              first | refine ft_go mi_k117 1 50 [(7, .ref 106), (6, .ref 114), (0, .ref 0), (1, .int x1), (2, .int x2), (3, .int x3), (4, .int x4), (5, .int x5)] [.int (-11)] i a q r (by rfl) ?_ | refine ko_steps mi_in117 1 _ (50, [(7, .ref 106), (6, .ref 114), (0, .ref 0), (1, .int x1), (2, .int x2), (3, .int x3), (4, .int x4), (5, .int x5)], [.int (-11)], (0, 0), ks i a q r) (by rfl) ?_
              exact ft_ret mi_k117 (by rfl) (hP (-11) _ _ _ _ hG trivial)
        by_cases w587 : x3.toInt = 2
        ·
          refine ko_eq (x1 := (29, [(6, .ref 114), (0, .ref 0), (1, .int x1), (2, .int x2), (3, .int x3), (4, .int x4), (5, .int x5)], [.int 2, .ref 97], (0, 0), ks i a q r)) (by rw [(kj_eq w587 (by decide) : x3 = 2)]) ?_
          have fi_7296 : ((0 : Int) ≤ (i 7296).toInt) ∧ ((i 7296).toInt ≤ 2) := hG.I.1 7296
          first | refine ft_go mi_k117 4 37 [(7, .ref 108), (6, .ref 114), (0, .ref 0), (1, .int x1), (2, .int x2), (3, .int x3), (4, .int x4), (5, .int x5)] [.int (i 7296)] i a q r (by rfl) ?_ | refine ko_steps mi_in117 4 _ (37, [(7, .ref 108), (6, .ref 114), (0, .ref 0), (1, .int x1), (2, .int x2), (3, .int x3), (4, .int x4), (5, .int x5)], [.int (i 7296)], (0, 0), ks i a q r) (by rfl) ?_
          refine ft_if mi_k117 ((i 7296) == 0) 48 40 [(7, .ref 108), (6, .ref 114), (0, .ref 0), (1, .int x1), (2, .int x2), (3, .int x3), (4, .int x4), (5, .int x5)] [] (by rfl) (fun c => ?_) (fun c => ?_)
          ·
            have c588 : (i 7296).toInt = (0 : Int32).toInt := kd_eq c; clear c
            first | refine ft_go mi_k117 1 50 [(7, .ref 108), (6, .ref 114), (0, .ref 0), (1, .int x1), (2, .int x2), (3, .int x3), (4, .int x4), (5, .int x5)] [.int (-11)] i a q r (by rfl) ?_ | refine ko_steps mi_in117 1 _ (50, [(7, .ref 108), (6, .ref 114), (0, .ref 0), (1, .int x1), (2, .int x2), (3, .int x3), (4, .int x4), (5, .int x5)], [.int (-11)], (0, 0), ks i a q r) (by rfl) ?_
            exact ft_ret mi_k117 (by rfl) (hP (-11) _ _ _ _ hG trivial)
          ·
            have c589 : (i 7296).toInt ≠ (0 : Int32).toInt := kd_eqF c; clear c
            have fi_6912 : ((0 : Int) ≤ (i 6912).toInt) ∧ ((i 6912).toInt ≤ 2) := hG.I.1 6912
            first | refine ft_go mi_k117 2 45 [(7, .ref 108), (6, .ref 114), (0, .ref 0), (1, .int x1), (2, .int x2), (3, .int x3), (4, .int x4), (5, .int x5)] [.int (i 6912)] i a q r (by rfl) ?_ | refine ko_steps mi_in117 2 _ (45, [(7, .ref 108), (6, .ref 114), (0, .ref 0), (1, .int x1), (2, .int x2), (3, .int x3), (4, .int x4), (5, .int x5)], [.int (i 6912)], (0, 0), ks i a q r) (by rfl) ?_
            refine ft_if mi_k117 ((i 6912) != 0) 51 48 [(7, .ref 108), (6, .ref 114), (0, .ref 0), (1, .int x1), (2, .int x2), (3, .int x3), (4, .int x4), (5, .int x5)] [] (by rfl) (fun c => ?_) (fun c => ?_)
            ·
              have c590 : (i 6912).toInt ≠ (0 : Int32).toInt := kd_ne c; clear c
              first | refine ft_go mi_k117 3 57 [(7, .ref 108), (6, .ref 114), (0, .ref 0), (1, .int x1), (2, .int x2), (3, .int x3), (4, .int x4), (5, .int x5)] [.int 2, .int (i 7296)] i a q r (by rfl) ?_ | refine ko_steps mi_in117 3 _ (57, [(7, .ref 108), (6, .ref 114), (0, .ref 0), (1, .int x1), (2, .int x2), (3, .int x3), (4, .int x4), (5, .int x5)], [.int 2, .int (i 7296)], (0, 0), ks i a q r) (by rfl) ?_
              refine ft_if mi_k117 ((i 7296) != 2) 82 60 [(7, .ref 108), (6, .ref 114), (0, .ref 0), (1, .int x1), (2, .int x2), (3, .int x3), (4, .int x4), (5, .int x5)] [] (by rfl) (fun c => ?_) (fun c => ?_)
              ·
                have c591 : (i 7296).toInt ≠ (2 : Int32).toInt := kd_ne c; clear c
                first | refine ft_go mi_k117 1 84 [(7, .ref 108), (6, .ref 114), (0, .ref 0), (1, .int x1), (2, .int x2), (3, .int x3), (4, .int x4), (5, .int x5)] [.int (-12)] i a q r (by rfl) ?_ | refine ko_steps mi_in117 1 _ (84, [(7, .ref 108), (6, .ref 114), (0, .ref 0), (1, .int x1), (2, .int x2), (3, .int x3), (4, .int x4), (5, .int x5)], [.int (-12)], (0, 0), ks i a q r) (by rfl) ?_
                exact ft_ret mi_k117 (by rfl) (hP (-12) _ _ _ _ hG trivial)
              ·
                have c592 : (i 7296).toInt = (2 : Int32).toInt := kd_neF c; clear c
                first | refine ft_go mi_k117 3 66 [(7, .ref 108), (6, .ref 114), (0, .ref 0), (1, .int x1), (2, .int x2), (3, .int x3), (4, .int x4), (5, .int x5)] [.int 2, .int (i 6912)] i a q r (by rfl) ?_ | refine ko_steps mi_in117 3 _ (66, [(7, .ref 108), (6, .ref 114), (0, .ref 0), (1, .int x1), (2, .int x2), (3, .int x3), (4, .int x4), (5, .int x5)], [.int 2, .int (i 6912)], (0, 0), ks i a q r) (by rfl) ?_
                refine ft_if mi_k117 ((i 6912) != 2) 82 69 [(7, .ref 108), (6, .ref 114), (0, .ref 0), (1, .int x1), (2, .int x2), (3, .int x3), (4, .int x4), (5, .int x5)] [] (by rfl) (fun c => ?_) (fun c => ?_)
                ·
                  have c593 : (i 6912).toInt ≠ (2 : Int32).toInt := kd_ne c; clear c
                  first | refine ft_go mi_k117 1 84 [(7, .ref 108), (6, .ref 114), (0, .ref 0), (1, .int x1), (2, .int x2), (3, .int x3), (4, .int x4), (5, .int x5)] [.int (-12)] i a q r (by rfl) ?_ | refine ko_steps mi_in117 1 _ (84, [(7, .ref 108), (6, .ref 114), (0, .ref 0), (1, .int x1), (2, .int x2), (3, .int x3), (4, .int x4), (5, .int x5)], [.int (-12)], (0, 0), ks i a q r) (by rfl) ?_
                  exact ft_ret mi_k117 (by rfl) (hP (-12) _ _ _ _ hG trivial)
                ·
                  have c594 : (i 6912).toInt = (2 : Int32).toInt := kd_neF c; clear c
                  have fi_7298 : ((0 : Int) ≤ (i 7298).toInt) ∧ ((i 7298).toInt ≤ 4) := hG.I.1 7298
                  have fi_6914 : ((0 : Int) ≤ (i 6914).toInt) ∧ ((i 6914).toInt ≤ 4) := hG.I.1 6914
                  first | refine ft_go mi_k117 4 79 [(7, .ref 108), (6, .ref 114), (0, .ref 0), (1, .int x1), (2, .int x2), (3, .int x3), (4, .int x4), (5, .int x5)] [.int (i 6914), .int (i 7298)] i a q r (by rfl) ?_ | refine ko_steps mi_in117 4 _ (79, [(7, .ref 108), (6, .ref 114), (0, .ref 0), (1, .int x1), (2, .int x2), (3, .int x3), (4, .int x4), (5, .int x5)], [.int (i 6914), .int (i 7298)], (0, 0), ks i a q r) (by rfl) ?_
                  refine ft_if mi_k117 ((i 7298) == (i 6914)) 85 82 [(7, .ref 108), (6, .ref 114), (0, .ref 0), (1, .int x1), (2, .int x2), (3, .int x3), (4, .int x4), (5, .int x5)] [] (by rfl) (fun c => ?_) (fun c => ?_)
                  ·
                    have c595 : (i 7298).toInt = (i 6914).toInt := kd_eq c; clear c
                    first | refine ft_go mi_k117 3 90 [(7, .ref 108), (6, .ref 114), (0, .ref 0), (1, .int x1), (2, .int x2), (3, .int x3), (4, .int x4), (5, .int x5)] [.int x5, .int x2, .ref 114] i a q r (by rfl) ?_ | refine ko_steps mi_in117 3 _ (90, [(7, .ref 108), (6, .ref 114), (0, .ref 0), (1, .int x1), (2, .int x2), (3, .int x3), (4, .int x4), (5, .int x5)], [.int x5, .int x2, .ref 114], (0, 0), ks i a q r) (by rfl) ?_
                    refine ko_callPI mi_k117.1 (pc := 90) (ls := [(7, .ref 108), (6, .ref 114), (0, .ref 0), (1, .int x1), (2, .int x2), (3, .int x3), (4, .int x4), (5, .int x5)]) (st := [.int x5, .int x2, .ref 114]) (h := ks i a q r) (i := (.invokevirtual 324, 3, 37, 0, 9, 0, 316)) (mi_k117.2 _ _ (by rfl)) (ft_invS mi_pq37 (by rfl)) (cy := mi_c37) mi_pq37 rfl (kc37_114 hG.I hG.R x2 x5) (by decide) ?_
                    intro vg596 hg596
                    rcases hg596 with ⟨eg596, hg596⟩ | ⟨eg596, hg596⟩
                    ·
                      subst eg596
                      have fi_7299 : ((0 : Int) ≤ (i 7299).toInt) ∧ ((i 7299).toInt ≤ 60) := hG.I.1 7299
                      have z597 : ((0 : Int) ≤ x5.toInt) ∧ (x5.toInt ≤ (i 7299).toInt) ∧ ((0 : Int) ≤ x2.toInt) ∧ ((x2.toInt + x5.toInt) ≤ (i 7299).toInt) := hg596
                      first | refine ft_go mi_k117 4 102 [(7, .ref 108), (6, .ref 114), (0, .ref 0), (1, .int x1), (2, .int x2), (3, .int x3), (4, .int x4), (5, .int x5)] [.int x5, .int x4, .ref 108] i a q r (by rfl) ?_ | refine ko_steps mi_in117 4 _ (102, [(7, .ref 108), (6, .ref 114), (0, .ref 0), (1, .int x1), (2, .int x2), (3, .int x3), (4, .int x4), (5, .int x5)], [.int x5, .int x4, .ref 108], (0, 0), ks i a q r) (by rfl) ?_
                      refine ko_callPI mi_k117.1 (pc := 102) (ls := [(7, .ref 108), (6, .ref 114), (0, .ref 0), (1, .int x1), (2, .int x2), (3, .int x3), (4, .int x4), (5, .int x5)]) (st := [.int x5, .int x4, .ref 108]) (h := ks i a q r) (i := (.invokevirtual 324, 3, 37, 0, 9, 0, 316)) (mi_k117.2 _ _ (by rfl)) (ft_invS mi_pq37 (by rfl)) (cy := mi_c37) mi_pq37 rfl (kc37_108 hG.I hG.R x4 x5) (by decide) ?_
                      intro vg598 hg598
                      rcases hg598 with ⟨eg598, hg598⟩ | ⟨eg598, hg598⟩
                      ·
                        subst eg598
                        have fi_6915 : ((0 : Int) ≤ (i 6915).toInt) ∧ ((i 6915).toInt ≤ 60) := hG.I.1 6915
                        have z599 : ((0 : Int) ≤ x5.toInt) ∧ (x5.toInt ≤ (i 6915).toInt) ∧ ((0 : Int) ≤ x4.toInt) ∧ ((x4.toInt + x5.toInt) ≤ (i 6915).toInt) := hg598
                        first | refine ft_go mi_k117 8 126 [(7, .ref 108), (6, .ref 114), (0, .ref 0), (1, .int x1), (2, .int x2), (3, .int x3), (4, .int x4), (5, .int x5)] [.int x5, .int x4, .ref 109, .int x2, .ref 115] i a q r (by rfl) ?_ | refine ko_steps mi_in117 8 _ (126, [(7, .ref 108), (6, .ref 114), (0, .ref 0), (1, .int x1), (2, .int x2), (3, .int x3), (4, .int x4), (5, .int x5)], [.int x5, .int x4, .ref 109, .int x2, .ref 115], (0, 0), ks i a q r) (by rfl) ?_
                        have hJ600 := kG_q hG 109 rfl (z := mi_cpy (q 115) (q 109) x2.toNatClampNeg x4.toNatClampNeg x5.toNatClampNeg) (kcpy_len2 (n := 60) (c := 60) (m := 60) (b := 60) (sp := x2) (dp := x4) (n1 := x5) (hG.I.2.2.2 115) rfl (hG.I.2.2.2 109) rfl (oz3 z597.1) (oz3 z597.2.2.1) (oz3 z599.2.2.1) (oz1278 fi_7299.2 z597.2.2.2) (oz1278 fi_6915.2 z599.2.2.2))
                        refine ko_copyL2 mi_k117.1 (l := q 115) (g := q 109) (n := 60) (c := 60) (m := 60) (b := 60) (mi_k117.2 _ _ (by rfl)) (by rfl) (by rfl) (by rfl) (by rfl) (by rfl) (hG.I.2.2.2 115) rfl (hG.I.2.2.2 109) rfl (oz3 z597.1) (oz3 z597.2.2.1) (oz3 z599.2.2.1) (oz1278 fi_7299.2 z597.2.2.2) (oz1278 fi_6915.2 z599.2.2.2) (h5 := ks i a (ku q 109 (mi_cpy (q 115) (q 109) x2.toNatClampNeg x4.toNatClampNeg x5.toNatClampNeg)) r) (by rfl) ?_
                        first | refine ft_go mi_k117 1 131 [(7, .ref 108), (6, .ref 114), (0, .ref 0), (1, .int x1), (2, .int x2), (3, .int x3), (4, .int x4), (5, .int x5)] [.int x5] i a (ku q 109 (mi_cpy (q 115) (q 109) x2.toNatClampNeg x4.toNatClampNeg x5.toNatClampNeg)) r (by rfl) ?_ | refine ko_steps mi_in117 1 _ (131, [(7, .ref 108), (6, .ref 114), (0, .ref 0), (1, .int x1), (2, .int x2), (3, .int x3), (4, .int x4), (5, .int x5)], [.int x5], (0, 0), ks i a (ku q 109 (mi_cpy (q 115) (q 109) x2.toNatClampNeg x4.toNatClampNeg x5.toNatClampNeg)) r) (by rfl) ?_
                        exact ft_ret mi_k117 (by rfl) (hP x5 _ _ _ _ hJ600 trivial)
                      ·
                        subst eg598
                        have fi_6915 : ((0 : Int) ≤ (i 6915).toInt) ∧ ((i 6915).toInt ≤ 60) := hG.I.1 6915
                        have z601 : ¬ (((0 : Int) ≤ x5.toInt) ∧ (x5.toInt ≤ (i 6915).toInt) ∧ ((0 : Int) ≤ x4.toInt) ∧ ((x4.toInt + x5.toInt) ≤ (i 6915).toInt)) := hg598
                        first | refine ft_go mi_k117 2 110 [(7, .ref 108), (6, .ref 114), (0, .ref 0), (1, .int x1), (2, .int x2), (3, .int x3), (4, .int x4), (5, .int x5)] [.int (-13)] i a q r (by rfl) ?_ | refine ko_steps mi_in117 2 _ (110, [(7, .ref 108), (6, .ref 114), (0, .ref 0), (1, .int x1), (2, .int x2), (3, .int x3), (4, .int x4), (5, .int x5)], [.int (-13)], (0, 0), ks i a q r) (by rfl) ?_
                        exact ft_ret mi_k117 (by rfl) (hP (-13) _ _ _ _ hG trivial)
                    ·
                      subst eg596
                      have fi_7299 : ((0 : Int) ≤ (i 7299).toInt) ∧ ((i 7299).toInt ≤ 60) := hG.I.1 7299
                      have z602 : ¬ (((0 : Int) ≤ x5.toInt) ∧ (x5.toInt ≤ (i 7299).toInt) ∧ ((0 : Int) ≤ x2.toInt) ∧ ((x2.toInt + x5.toInt) ≤ (i 7299).toInt)) := hg596
                      first | refine ft_go mi_k117 2 110 [(7, .ref 108), (6, .ref 114), (0, .ref 0), (1, .int x1), (2, .int x2), (3, .int x3), (4, .int x4), (5, .int x5)] [.int (-13)] i a q r (by rfl) ?_ | refine ko_steps mi_in117 2 _ (110, [(7, .ref 108), (6, .ref 114), (0, .ref 0), (1, .int x1), (2, .int x2), (3, .int x3), (4, .int x4), (5, .int x5)], [.int (-13)], (0, 0), ks i a q r) (by rfl) ?_
                      exact ft_ret mi_k117 (by rfl) (hP (-13) _ _ _ _ hG trivial)
                  ·
                    have c603 : (i 7298).toInt ≠ (i 6914).toInt := kd_eqF c; clear c
                    first | refine ft_go mi_k117 1 84 [(7, .ref 108), (6, .ref 114), (0, .ref 0), (1, .int x1), (2, .int x2), (3, .int x3), (4, .int x4), (5, .int x5)] [.int (-12)] i a q r (by rfl) ?_ | refine ko_steps mi_in117 1 _ (84, [(7, .ref 108), (6, .ref 114), (0, .ref 0), (1, .int x1), (2, .int x2), (3, .int x3), (4, .int x4), (5, .int x5)], [.int (-12)], (0, 0), ks i a q r) (by rfl) ?_
                    exact ft_ret mi_k117 (by rfl) (hP (-12) _ _ _ _ hG trivial)
            ·
              have c604 : (i 6912).toInt = (0 : Int32).toInt := kd_neF c; clear c
              first | refine ft_go mi_k117 1 50 [(7, .ref 108), (6, .ref 114), (0, .ref 0), (1, .int x1), (2, .int x2), (3, .int x3), (4, .int x4), (5, .int x5)] [.int (-11)] i a q r (by rfl) ?_ | refine ko_steps mi_in117 1 _ (50, [(7, .ref 108), (6, .ref 114), (0, .ref 0), (1, .int x1), (2, .int x2), (3, .int x3), (4, .int x4), (5, .int x5)], [.int (-11)], (0, 0), ks i a q r) (by rfl) ?_
              exact ft_ret mi_k117 (by rfl) (hP (-11) _ _ _ _ hG trivial)
        by_cases w605 : x3.toInt = 3
        ·
          refine ko_eq (x1 := (29, [(6, .ref 114), (0, .ref 0), (1, .int x1), (2, .int x2), (3, .int x3), (4, .int x4), (5, .int x5)], [.int 3, .ref 97], (0, 0), ks i a q r)) (by rw [(kj_eq w605 (by decide) : x3 = 3)]) ?_
          have fi_7296 : ((0 : Int) ≤ (i 7296).toInt) ∧ ((i 7296).toInt ≤ 2) := hG.I.1 7296
          first | refine ft_go mi_k117 4 37 [(7, .ref 110), (6, .ref 114), (0, .ref 0), (1, .int x1), (2, .int x2), (3, .int x3), (4, .int x4), (5, .int x5)] [.int (i 7296)] i a q r (by rfl) ?_ | refine ko_steps mi_in117 4 _ (37, [(7, .ref 110), (6, .ref 114), (0, .ref 0), (1, .int x1), (2, .int x2), (3, .int x3), (4, .int x4), (5, .int x5)], [.int (i 7296)], (0, 0), ks i a q r) (by rfl) ?_
          refine ft_if mi_k117 ((i 7296) == 0) 48 40 [(7, .ref 110), (6, .ref 114), (0, .ref 0), (1, .int x1), (2, .int x2), (3, .int x3), (4, .int x4), (5, .int x5)] [] (by rfl) (fun c => ?_) (fun c => ?_)
          ·
            have c606 : (i 7296).toInt = (0 : Int32).toInt := kd_eq c; clear c
            first | refine ft_go mi_k117 1 50 [(7, .ref 110), (6, .ref 114), (0, .ref 0), (1, .int x1), (2, .int x2), (3, .int x3), (4, .int x4), (5, .int x5)] [.int (-11)] i a q r (by rfl) ?_ | refine ko_steps mi_in117 1 _ (50, [(7, .ref 110), (6, .ref 114), (0, .ref 0), (1, .int x1), (2, .int x2), (3, .int x3), (4, .int x4), (5, .int x5)], [.int (-11)], (0, 0), ks i a q r) (by rfl) ?_
            exact ft_ret mi_k117 (by rfl) (hP (-11) _ _ _ _ hG trivial)
          ·
            have c607 : (i 7296).toInt ≠ (0 : Int32).toInt := kd_eqF c; clear c
            have fi_7040 : ((0 : Int) ≤ (i 7040).toInt) ∧ ((i 7040).toInt ≤ 2) := hG.I.1 7040
            first | refine ft_go mi_k117 2 45 [(7, .ref 110), (6, .ref 114), (0, .ref 0), (1, .int x1), (2, .int x2), (3, .int x3), (4, .int x4), (5, .int x5)] [.int (i 7040)] i a q r (by rfl) ?_ | refine ko_steps mi_in117 2 _ (45, [(7, .ref 110), (6, .ref 114), (0, .ref 0), (1, .int x1), (2, .int x2), (3, .int x3), (4, .int x4), (5, .int x5)], [.int (i 7040)], (0, 0), ks i a q r) (by rfl) ?_
            refine ft_if mi_k117 ((i 7040) != 0) 51 48 [(7, .ref 110), (6, .ref 114), (0, .ref 0), (1, .int x1), (2, .int x2), (3, .int x3), (4, .int x4), (5, .int x5)] [] (by rfl) (fun c => ?_) (fun c => ?_)
            ·
              have c608 : (i 7040).toInt ≠ (0 : Int32).toInt := kd_ne c; clear c
              first | refine ft_go mi_k117 3 57 [(7, .ref 110), (6, .ref 114), (0, .ref 0), (1, .int x1), (2, .int x2), (3, .int x3), (4, .int x4), (5, .int x5)] [.int 2, .int (i 7296)] i a q r (by rfl) ?_ | refine ko_steps mi_in117 3 _ (57, [(7, .ref 110), (6, .ref 114), (0, .ref 0), (1, .int x1), (2, .int x2), (3, .int x3), (4, .int x4), (5, .int x5)], [.int 2, .int (i 7296)], (0, 0), ks i a q r) (by rfl) ?_
              refine ft_if mi_k117 ((i 7296) != 2) 82 60 [(7, .ref 110), (6, .ref 114), (0, .ref 0), (1, .int x1), (2, .int x2), (3, .int x3), (4, .int x4), (5, .int x5)] [] (by rfl) (fun c => ?_) (fun c => ?_)
              ·
                have c609 : (i 7296).toInt ≠ (2 : Int32).toInt := kd_ne c; clear c
                first | refine ft_go mi_k117 1 84 [(7, .ref 110), (6, .ref 114), (0, .ref 0), (1, .int x1), (2, .int x2), (3, .int x3), (4, .int x4), (5, .int x5)] [.int (-12)] i a q r (by rfl) ?_ | refine ko_steps mi_in117 1 _ (84, [(7, .ref 110), (6, .ref 114), (0, .ref 0), (1, .int x1), (2, .int x2), (3, .int x3), (4, .int x4), (5, .int x5)], [.int (-12)], (0, 0), ks i a q r) (by rfl) ?_
                exact ft_ret mi_k117 (by rfl) (hP (-12) _ _ _ _ hG trivial)
              ·
                have c610 : (i 7296).toInt = (2 : Int32).toInt := kd_neF c; clear c
                first | refine ft_go mi_k117 3 66 [(7, .ref 110), (6, .ref 114), (0, .ref 0), (1, .int x1), (2, .int x2), (3, .int x3), (4, .int x4), (5, .int x5)] [.int 2, .int (i 7040)] i a q r (by rfl) ?_ | refine ko_steps mi_in117 3 _ (66, [(7, .ref 110), (6, .ref 114), (0, .ref 0), (1, .int x1), (2, .int x2), (3, .int x3), (4, .int x4), (5, .int x5)], [.int 2, .int (i 7040)], (0, 0), ks i a q r) (by rfl) ?_
                refine ft_if mi_k117 ((i 7040) != 2) 82 69 [(7, .ref 110), (6, .ref 114), (0, .ref 0), (1, .int x1), (2, .int x2), (3, .int x3), (4, .int x4), (5, .int x5)] [] (by rfl) (fun c => ?_) (fun c => ?_)
                ·
                  have c611 : (i 7040).toInt ≠ (2 : Int32).toInt := kd_ne c; clear c
                  first | refine ft_go mi_k117 1 84 [(7, .ref 110), (6, .ref 114), (0, .ref 0), (1, .int x1), (2, .int x2), (3, .int x3), (4, .int x4), (5, .int x5)] [.int (-12)] i a q r (by rfl) ?_ | refine ko_steps mi_in117 1 _ (84, [(7, .ref 110), (6, .ref 114), (0, .ref 0), (1, .int x1), (2, .int x2), (3, .int x3), (4, .int x4), (5, .int x5)], [.int (-12)], (0, 0), ks i a q r) (by rfl) ?_
                  exact ft_ret mi_k117 (by rfl) (hP (-12) _ _ _ _ hG trivial)
                ·
                  have c612 : (i 7040).toInt = (2 : Int32).toInt := kd_neF c; clear c
                  have fi_7298 : ((0 : Int) ≤ (i 7298).toInt) ∧ ((i 7298).toInt ≤ 4) := hG.I.1 7298
                  have fi_7042 : ((0 : Int) ≤ (i 7042).toInt) ∧ ((i 7042).toInt ≤ 4) := hG.I.1 7042
                  first | refine ft_go mi_k117 4 79 [(7, .ref 110), (6, .ref 114), (0, .ref 0), (1, .int x1), (2, .int x2), (3, .int x3), (4, .int x4), (5, .int x5)] [.int (i 7042), .int (i 7298)] i a q r (by rfl) ?_ | refine ko_steps mi_in117 4 _ (79, [(7, .ref 110), (6, .ref 114), (0, .ref 0), (1, .int x1), (2, .int x2), (3, .int x3), (4, .int x4), (5, .int x5)], [.int (i 7042), .int (i 7298)], (0, 0), ks i a q r) (by rfl) ?_
                  refine ft_if mi_k117 ((i 7298) == (i 7042)) 85 82 [(7, .ref 110), (6, .ref 114), (0, .ref 0), (1, .int x1), (2, .int x2), (3, .int x3), (4, .int x4), (5, .int x5)] [] (by rfl) (fun c => ?_) (fun c => ?_)
                  ·
                    have c613 : (i 7298).toInt = (i 7042).toInt := kd_eq c; clear c
                    first | refine ft_go mi_k117 3 90 [(7, .ref 110), (6, .ref 114), (0, .ref 0), (1, .int x1), (2, .int x2), (3, .int x3), (4, .int x4), (5, .int x5)] [.int x5, .int x2, .ref 114] i a q r (by rfl) ?_ | refine ko_steps mi_in117 3 _ (90, [(7, .ref 110), (6, .ref 114), (0, .ref 0), (1, .int x1), (2, .int x2), (3, .int x3), (4, .int x4), (5, .int x5)], [.int x5, .int x2, .ref 114], (0, 0), ks i a q r) (by rfl) ?_
                    refine ko_callPI mi_k117.1 (pc := 90) (ls := [(7, .ref 110), (6, .ref 114), (0, .ref 0), (1, .int x1), (2, .int x2), (3, .int x3), (4, .int x4), (5, .int x5)]) (st := [.int x5, .int x2, .ref 114]) (h := ks i a q r) (i := (.invokevirtual 324, 3, 37, 0, 9, 0, 316)) (mi_k117.2 _ _ (by rfl)) (ft_invS mi_pq37 (by rfl)) (cy := mi_c37) mi_pq37 rfl (kc37_114 hG.I hG.R x2 x5) (by decide) ?_
                    intro vg614 hg614
                    rcases hg614 with ⟨eg614, hg614⟩ | ⟨eg614, hg614⟩
                    ·
                      subst eg614
                      have fi_7299 : ((0 : Int) ≤ (i 7299).toInt) ∧ ((i 7299).toInt ≤ 60) := hG.I.1 7299
                      have z615 : ((0 : Int) ≤ x5.toInt) ∧ (x5.toInt ≤ (i 7299).toInt) ∧ ((0 : Int) ≤ x2.toInt) ∧ ((x2.toInt + x5.toInt) ≤ (i 7299).toInt) := hg614
                      first | refine ft_go mi_k117 4 102 [(7, .ref 110), (6, .ref 114), (0, .ref 0), (1, .int x1), (2, .int x2), (3, .int x3), (4, .int x4), (5, .int x5)] [.int x5, .int x4, .ref 110] i a q r (by rfl) ?_ | refine ko_steps mi_in117 4 _ (102, [(7, .ref 110), (6, .ref 114), (0, .ref 0), (1, .int x1), (2, .int x2), (3, .int x3), (4, .int x4), (5, .int x5)], [.int x5, .int x4, .ref 110], (0, 0), ks i a q r) (by rfl) ?_
                      refine ko_callPI mi_k117.1 (pc := 102) (ls := [(7, .ref 110), (6, .ref 114), (0, .ref 0), (1, .int x1), (2, .int x2), (3, .int x3), (4, .int x4), (5, .int x5)]) (st := [.int x5, .int x4, .ref 110]) (h := ks i a q r) (i := (.invokevirtual 324, 3, 37, 0, 9, 0, 316)) (mi_k117.2 _ _ (by rfl)) (ft_invS mi_pq37 (by rfl)) (cy := mi_c37) mi_pq37 rfl (kc37_110 hG.I hG.R x4 x5) (by decide) ?_
                      intro vg616 hg616
                      rcases hg616 with ⟨eg616, hg616⟩ | ⟨eg616, hg616⟩
                      ·
                        subst eg616
                        have fi_7043 : ((0 : Int) ≤ (i 7043).toInt) ∧ ((i 7043).toInt ≤ 60) := hG.I.1 7043
                        have z617 : ((0 : Int) ≤ x5.toInt) ∧ (x5.toInt ≤ (i 7043).toInt) ∧ ((0 : Int) ≤ x4.toInt) ∧ ((x4.toInt + x5.toInt) ≤ (i 7043).toInt) := hg616
                        first | refine ft_go mi_k117 8 126 [(7, .ref 110), (6, .ref 114), (0, .ref 0), (1, .int x1), (2, .int x2), (3, .int x3), (4, .int x4), (5, .int x5)] [.int x5, .int x4, .ref 111, .int x2, .ref 115] i a q r (by rfl) ?_ | refine ko_steps mi_in117 8 _ (126, [(7, .ref 110), (6, .ref 114), (0, .ref 0), (1, .int x1), (2, .int x2), (3, .int x3), (4, .int x4), (5, .int x5)], [.int x5, .int x4, .ref 111, .int x2, .ref 115], (0, 0), ks i a q r) (by rfl) ?_
                        have hJ618 := kG_q hG 111 rfl (z := mi_cpy (q 115) (q 111) x2.toNatClampNeg x4.toNatClampNeg x5.toNatClampNeg) (kcpy_len2 (n := 60) (c := 60) (m := 60) (b := 60) (sp := x2) (dp := x4) (n1 := x5) (hG.I.2.2.2 115) rfl (hG.I.2.2.2 111) rfl (oz3 z615.1) (oz3 z615.2.2.1) (oz3 z617.2.2.1) (oz1278 fi_7299.2 z615.2.2.2) (oz1278 fi_7043.2 z617.2.2.2))
                        refine ko_copyL2 mi_k117.1 (l := q 115) (g := q 111) (n := 60) (c := 60) (m := 60) (b := 60) (mi_k117.2 _ _ (by rfl)) (by rfl) (by rfl) (by rfl) (by rfl) (by rfl) (hG.I.2.2.2 115) rfl (hG.I.2.2.2 111) rfl (oz3 z615.1) (oz3 z615.2.2.1) (oz3 z617.2.2.1) (oz1278 fi_7299.2 z615.2.2.2) (oz1278 fi_7043.2 z617.2.2.2) (h5 := ks i a (ku q 111 (mi_cpy (q 115) (q 111) x2.toNatClampNeg x4.toNatClampNeg x5.toNatClampNeg)) r) (by rfl) ?_
                        first | refine ft_go mi_k117 1 131 [(7, .ref 110), (6, .ref 114), (0, .ref 0), (1, .int x1), (2, .int x2), (3, .int x3), (4, .int x4), (5, .int x5)] [.int x5] i a (ku q 111 (mi_cpy (q 115) (q 111) x2.toNatClampNeg x4.toNatClampNeg x5.toNatClampNeg)) r (by rfl) ?_ | refine ko_steps mi_in117 1 _ (131, [(7, .ref 110), (6, .ref 114), (0, .ref 0), (1, .int x1), (2, .int x2), (3, .int x3), (4, .int x4), (5, .int x5)], [.int x5], (0, 0), ks i a (ku q 111 (mi_cpy (q 115) (q 111) x2.toNatClampNeg x4.toNatClampNeg x5.toNatClampNeg)) r) (by rfl) ?_
                        exact ft_ret mi_k117 (by rfl) (hP x5 _ _ _ _ hJ618 trivial)
                      ·
                        subst eg616
                        have fi_7043 : ((0 : Int) ≤ (i 7043).toInt) ∧ ((i 7043).toInt ≤ 60) := hG.I.1 7043
                        have z619 : ¬ (((0 : Int) ≤ x5.toInt) ∧ (x5.toInt ≤ (i 7043).toInt) ∧ ((0 : Int) ≤ x4.toInt) ∧ ((x4.toInt + x5.toInt) ≤ (i 7043).toInt)) := hg616
                        first | refine ft_go mi_k117 2 110 [(7, .ref 110), (6, .ref 114), (0, .ref 0), (1, .int x1), (2, .int x2), (3, .int x3), (4, .int x4), (5, .int x5)] [.int (-13)] i a q r (by rfl) ?_ | refine ko_steps mi_in117 2 _ (110, [(7, .ref 110), (6, .ref 114), (0, .ref 0), (1, .int x1), (2, .int x2), (3, .int x3), (4, .int x4), (5, .int x5)], [.int (-13)], (0, 0), ks i a q r) (by rfl) ?_
                        exact ft_ret mi_k117 (by rfl) (hP (-13) _ _ _ _ hG trivial)
                    ·
                      subst eg614
                      have fi_7299 : ((0 : Int) ≤ (i 7299).toInt) ∧ ((i 7299).toInt ≤ 60) := hG.I.1 7299
                      have z620 : ¬ (((0 : Int) ≤ x5.toInt) ∧ (x5.toInt ≤ (i 7299).toInt) ∧ ((0 : Int) ≤ x2.toInt) ∧ ((x2.toInt + x5.toInt) ≤ (i 7299).toInt)) := hg614
                      first | refine ft_go mi_k117 2 110 [(7, .ref 110), (6, .ref 114), (0, .ref 0), (1, .int x1), (2, .int x2), (3, .int x3), (4, .int x4), (5, .int x5)] [.int (-13)] i a q r (by rfl) ?_ | refine ko_steps mi_in117 2 _ (110, [(7, .ref 110), (6, .ref 114), (0, .ref 0), (1, .int x1), (2, .int x2), (3, .int x3), (4, .int x4), (5, .int x5)], [.int (-13)], (0, 0), ks i a q r) (by rfl) ?_
                      exact ft_ret mi_k117 (by rfl) (hP (-13) _ _ _ _ hG trivial)
                  ·
                    have c621 : (i 7298).toInt ≠ (i 7042).toInt := kd_eqF c; clear c
                    first | refine ft_go mi_k117 1 84 [(7, .ref 110), (6, .ref 114), (0, .ref 0), (1, .int x1), (2, .int x2), (3, .int x3), (4, .int x4), (5, .int x5)] [.int (-12)] i a q r (by rfl) ?_ | refine ko_steps mi_in117 1 _ (84, [(7, .ref 110), (6, .ref 114), (0, .ref 0), (1, .int x1), (2, .int x2), (3, .int x3), (4, .int x4), (5, .int x5)], [.int (-12)], (0, 0), ks i a q r) (by rfl) ?_
                    exact ft_ret mi_k117 (by rfl) (hP (-12) _ _ _ _ hG trivial)
            ·
              have c622 : (i 7040).toInt = (0 : Int32).toInt := kd_neF c; clear c
              first | refine ft_go mi_k117 1 50 [(7, .ref 110), (6, .ref 114), (0, .ref 0), (1, .int x1), (2, .int x2), (3, .int x3), (4, .int x4), (5, .int x5)] [.int (-11)] i a q r (by rfl) ?_ | refine ko_steps mi_in117 1 _ (50, [(7, .ref 110), (6, .ref 114), (0, .ref 0), (1, .int x1), (2, .int x2), (3, .int x3), (4, .int x4), (5, .int x5)], [.int (-11)], (0, 0), ks i a q r) (by rfl) ?_
              exact ft_ret mi_k117 (by rfl) (hP (-11) _ _ _ _ hG trivial)
        by_cases w623 : x3.toInt = 4
        ·
          refine ko_eq (x1 := (29, [(6, .ref 114), (0, .ref 0), (1, .int x1), (2, .int x2), (3, .int x3), (4, .int x4), (5, .int x5)], [.int 4, .ref 97], (0, 0), ks i a q r)) (by rw [(kj_eq w623 (by decide) : x3 = 4)]) ?_
          have fi_7296 : ((0 : Int) ≤ (i 7296).toInt) ∧ ((i 7296).toInt ≤ 2) := hG.I.1 7296
          first | refine ft_go mi_k117 4 37 [(7, .ref 112), (6, .ref 114), (0, .ref 0), (1, .int x1), (2, .int x2), (3, .int x3), (4, .int x4), (5, .int x5)] [.int (i 7296)] i a q r (by rfl) ?_ | refine ko_steps mi_in117 4 _ (37, [(7, .ref 112), (6, .ref 114), (0, .ref 0), (1, .int x1), (2, .int x2), (3, .int x3), (4, .int x4), (5, .int x5)], [.int (i 7296)], (0, 0), ks i a q r) (by rfl) ?_
          refine ft_if mi_k117 ((i 7296) == 0) 48 40 [(7, .ref 112), (6, .ref 114), (0, .ref 0), (1, .int x1), (2, .int x2), (3, .int x3), (4, .int x4), (5, .int x5)] [] (by rfl) (fun c => ?_) (fun c => ?_)
          ·
            have c624 : (i 7296).toInt = (0 : Int32).toInt := kd_eq c; clear c
            first | refine ft_go mi_k117 1 50 [(7, .ref 112), (6, .ref 114), (0, .ref 0), (1, .int x1), (2, .int x2), (3, .int x3), (4, .int x4), (5, .int x5)] [.int (-11)] i a q r (by rfl) ?_ | refine ko_steps mi_in117 1 _ (50, [(7, .ref 112), (6, .ref 114), (0, .ref 0), (1, .int x1), (2, .int x2), (3, .int x3), (4, .int x4), (5, .int x5)], [.int (-11)], (0, 0), ks i a q r) (by rfl) ?_
            exact ft_ret mi_k117 (by rfl) (hP (-11) _ _ _ _ hG trivial)
          ·
            have c625 : (i 7296).toInt ≠ (0 : Int32).toInt := kd_eqF c; clear c
            have fi_7168 : ((0 : Int) ≤ (i 7168).toInt) ∧ ((i 7168).toInt ≤ 2) := hG.I.1 7168
            first | refine ft_go mi_k117 2 45 [(7, .ref 112), (6, .ref 114), (0, .ref 0), (1, .int x1), (2, .int x2), (3, .int x3), (4, .int x4), (5, .int x5)] [.int (i 7168)] i a q r (by rfl) ?_ | refine ko_steps mi_in117 2 _ (45, [(7, .ref 112), (6, .ref 114), (0, .ref 0), (1, .int x1), (2, .int x2), (3, .int x3), (4, .int x4), (5, .int x5)], [.int (i 7168)], (0, 0), ks i a q r) (by rfl) ?_
            refine ft_if mi_k117 ((i 7168) != 0) 51 48 [(7, .ref 112), (6, .ref 114), (0, .ref 0), (1, .int x1), (2, .int x2), (3, .int x3), (4, .int x4), (5, .int x5)] [] (by rfl) (fun c => ?_) (fun c => ?_)
            ·
              have c626 : (i 7168).toInt ≠ (0 : Int32).toInt := kd_ne c; clear c
              first | refine ft_go mi_k117 3 57 [(7, .ref 112), (6, .ref 114), (0, .ref 0), (1, .int x1), (2, .int x2), (3, .int x3), (4, .int x4), (5, .int x5)] [.int 2, .int (i 7296)] i a q r (by rfl) ?_ | refine ko_steps mi_in117 3 _ (57, [(7, .ref 112), (6, .ref 114), (0, .ref 0), (1, .int x1), (2, .int x2), (3, .int x3), (4, .int x4), (5, .int x5)], [.int 2, .int (i 7296)], (0, 0), ks i a q r) (by rfl) ?_
              refine ft_if mi_k117 ((i 7296) != 2) 82 60 [(7, .ref 112), (6, .ref 114), (0, .ref 0), (1, .int x1), (2, .int x2), (3, .int x3), (4, .int x4), (5, .int x5)] [] (by rfl) (fun c => ?_) (fun c => ?_)
              ·
                have c627 : (i 7296).toInt ≠ (2 : Int32).toInt := kd_ne c; clear c
                first | refine ft_go mi_k117 1 84 [(7, .ref 112), (6, .ref 114), (0, .ref 0), (1, .int x1), (2, .int x2), (3, .int x3), (4, .int x4), (5, .int x5)] [.int (-12)] i a q r (by rfl) ?_ | refine ko_steps mi_in117 1 _ (84, [(7, .ref 112), (6, .ref 114), (0, .ref 0), (1, .int x1), (2, .int x2), (3, .int x3), (4, .int x4), (5, .int x5)], [.int (-12)], (0, 0), ks i a q r) (by rfl) ?_
                exact ft_ret mi_k117 (by rfl) (hP (-12) _ _ _ _ hG trivial)
              ·
                have c628 : (i 7296).toInt = (2 : Int32).toInt := kd_neF c; clear c
                first | refine ft_go mi_k117 3 66 [(7, .ref 112), (6, .ref 114), (0, .ref 0), (1, .int x1), (2, .int x2), (3, .int x3), (4, .int x4), (5, .int x5)] [.int 2, .int (i 7168)] i a q r (by rfl) ?_ | refine ko_steps mi_in117 3 _ (66, [(7, .ref 112), (6, .ref 114), (0, .ref 0), (1, .int x1), (2, .int x2), (3, .int x3), (4, .int x4), (5, .int x5)], [.int 2, .int (i 7168)], (0, 0), ks i a q r) (by rfl) ?_
                refine ft_if mi_k117 ((i 7168) != 2) 82 69 [(7, .ref 112), (6, .ref 114), (0, .ref 0), (1, .int x1), (2, .int x2), (3, .int x3), (4, .int x4), (5, .int x5)] [] (by rfl) (fun c => ?_) (fun c => ?_)
                ·
                  have c629 : (i 7168).toInt ≠ (2 : Int32).toInt := kd_ne c; clear c
                  first | refine ft_go mi_k117 1 84 [(7, .ref 112), (6, .ref 114), (0, .ref 0), (1, .int x1), (2, .int x2), (3, .int x3), (4, .int x4), (5, .int x5)] [.int (-12)] i a q r (by rfl) ?_ | refine ko_steps mi_in117 1 _ (84, [(7, .ref 112), (6, .ref 114), (0, .ref 0), (1, .int x1), (2, .int x2), (3, .int x3), (4, .int x4), (5, .int x5)], [.int (-12)], (0, 0), ks i a q r) (by rfl) ?_
                  exact ft_ret mi_k117 (by rfl) (hP (-12) _ _ _ _ hG trivial)
                ·
                  have c630 : (i 7168).toInt = (2 : Int32).toInt := kd_neF c; clear c
                  have fi_7298 : ((0 : Int) ≤ (i 7298).toInt) ∧ ((i 7298).toInt ≤ 4) := hG.I.1 7298
                  have fi_7170 : ((0 : Int) ≤ (i 7170).toInt) ∧ ((i 7170).toInt ≤ 4) := hG.I.1 7170
                  first | refine ft_go mi_k117 4 79 [(7, .ref 112), (6, .ref 114), (0, .ref 0), (1, .int x1), (2, .int x2), (3, .int x3), (4, .int x4), (5, .int x5)] [.int (i 7170), .int (i 7298)] i a q r (by rfl) ?_ | refine ko_steps mi_in117 4 _ (79, [(7, .ref 112), (6, .ref 114), (0, .ref 0), (1, .int x1), (2, .int x2), (3, .int x3), (4, .int x4), (5, .int x5)], [.int (i 7170), .int (i 7298)], (0, 0), ks i a q r) (by rfl) ?_
                  refine ft_if mi_k117 ((i 7298) == (i 7170)) 85 82 [(7, .ref 112), (6, .ref 114), (0, .ref 0), (1, .int x1), (2, .int x2), (3, .int x3), (4, .int x4), (5, .int x5)] [] (by rfl) (fun c => ?_) (fun c => ?_)
                  ·
                    have c631 : (i 7298).toInt = (i 7170).toInt := kd_eq c; clear c
                    first | refine ft_go mi_k117 3 90 [(7, .ref 112), (6, .ref 114), (0, .ref 0), (1, .int x1), (2, .int x2), (3, .int x3), (4, .int x4), (5, .int x5)] [.int x5, .int x2, .ref 114] i a q r (by rfl) ?_ | refine ko_steps mi_in117 3 _ (90, [(7, .ref 112), (6, .ref 114), (0, .ref 0), (1, .int x1), (2, .int x2), (3, .int x3), (4, .int x4), (5, .int x5)], [.int x5, .int x2, .ref 114], (0, 0), ks i a q r) (by rfl) ?_
                    refine ko_callPI mi_k117.1 (pc := 90) (ls := [(7, .ref 112), (6, .ref 114), (0, .ref 0), (1, .int x1), (2, .int x2), (3, .int x3), (4, .int x4), (5, .int x5)]) (st := [.int x5, .int x2, .ref 114]) (h := ks i a q r) (i := (.invokevirtual 324, 3, 37, 0, 9, 0, 316)) (mi_k117.2 _ _ (by rfl)) (ft_invS mi_pq37 (by rfl)) (cy := mi_c37) mi_pq37 rfl (kc37_114 hG.I hG.R x2 x5) (by decide) ?_
                    intro vg632 hg632
                    rcases hg632 with ⟨eg632, hg632⟩ | ⟨eg632, hg632⟩
                    ·
                      subst eg632
                      have fi_7299 : ((0 : Int) ≤ (i 7299).toInt) ∧ ((i 7299).toInt ≤ 60) := hG.I.1 7299
                      have z633 : ((0 : Int) ≤ x5.toInt) ∧ (x5.toInt ≤ (i 7299).toInt) ∧ ((0 : Int) ≤ x2.toInt) ∧ ((x2.toInt + x5.toInt) ≤ (i 7299).toInt) := hg632
                      first | refine ft_go mi_k117 4 102 [(7, .ref 112), (6, .ref 114), (0, .ref 0), (1, .int x1), (2, .int x2), (3, .int x3), (4, .int x4), (5, .int x5)] [.int x5, .int x4, .ref 112] i a q r (by rfl) ?_ | refine ko_steps mi_in117 4 _ (102, [(7, .ref 112), (6, .ref 114), (0, .ref 0), (1, .int x1), (2, .int x2), (3, .int x3), (4, .int x4), (5, .int x5)], [.int x5, .int x4, .ref 112], (0, 0), ks i a q r) (by rfl) ?_
                      refine ko_callPI mi_k117.1 (pc := 102) (ls := [(7, .ref 112), (6, .ref 114), (0, .ref 0), (1, .int x1), (2, .int x2), (3, .int x3), (4, .int x4), (5, .int x5)]) (st := [.int x5, .int x4, .ref 112]) (h := ks i a q r) (i := (.invokevirtual 324, 3, 37, 0, 9, 0, 316)) (mi_k117.2 _ _ (by rfl)) (ft_invS mi_pq37 (by rfl)) (cy := mi_c37) mi_pq37 rfl (kc37_112 hG.I hG.R x4 x5) (by decide) ?_
                      intro vg634 hg634
                      rcases hg634 with ⟨eg634, hg634⟩ | ⟨eg634, hg634⟩
                      ·
                        subst eg634
                        have fi_7171 : ((0 : Int) ≤ (i 7171).toInt) ∧ ((i 7171).toInt ≤ 60) := hG.I.1 7171
                        have z635 : ((0 : Int) ≤ x5.toInt) ∧ (x5.toInt ≤ (i 7171).toInt) ∧ ((0 : Int) ≤ x4.toInt) ∧ ((x4.toInt + x5.toInt) ≤ (i 7171).toInt) := hg634
                        first | refine ft_go mi_k117 8 126 [(7, .ref 112), (6, .ref 114), (0, .ref 0), (1, .int x1), (2, .int x2), (3, .int x3), (4, .int x4), (5, .int x5)] [.int x5, .int x4, .ref 113, .int x2, .ref 115] i a q r (by rfl) ?_ | refine ko_steps mi_in117 8 _ (126, [(7, .ref 112), (6, .ref 114), (0, .ref 0), (1, .int x1), (2, .int x2), (3, .int x3), (4, .int x4), (5, .int x5)], [.int x5, .int x4, .ref 113, .int x2, .ref 115], (0, 0), ks i a q r) (by rfl) ?_
                        have hJ636 := kG_q hG 113 rfl (z := mi_cpy (q 115) (q 113) x2.toNatClampNeg x4.toNatClampNeg x5.toNatClampNeg) (kcpy_len2 (n := 60) (c := 60) (m := 60) (b := 60) (sp := x2) (dp := x4) (n1 := x5) (hG.I.2.2.2 115) rfl (hG.I.2.2.2 113) rfl (oz3 z633.1) (oz3 z633.2.2.1) (oz3 z635.2.2.1) (oz1278 fi_7299.2 z633.2.2.2) (oz1278 fi_7171.2 z635.2.2.2))
                        refine ko_copyL2 mi_k117.1 (l := q 115) (g := q 113) (n := 60) (c := 60) (m := 60) (b := 60) (mi_k117.2 _ _ (by rfl)) (by rfl) (by rfl) (by rfl) (by rfl) (by rfl) (hG.I.2.2.2 115) rfl (hG.I.2.2.2 113) rfl (oz3 z633.1) (oz3 z633.2.2.1) (oz3 z635.2.2.1) (oz1278 fi_7299.2 z633.2.2.2) (oz1278 fi_7171.2 z635.2.2.2) (h5 := ks i a (ku q 113 (mi_cpy (q 115) (q 113) x2.toNatClampNeg x4.toNatClampNeg x5.toNatClampNeg)) r) (by rfl) ?_
                        first | refine ft_go mi_k117 1 131 [(7, .ref 112), (6, .ref 114), (0, .ref 0), (1, .int x1), (2, .int x2), (3, .int x3), (4, .int x4), (5, .int x5)] [.int x5] i a (ku q 113 (mi_cpy (q 115) (q 113) x2.toNatClampNeg x4.toNatClampNeg x5.toNatClampNeg)) r (by rfl) ?_ | refine ko_steps mi_in117 1 _ (131, [(7, .ref 112), (6, .ref 114), (0, .ref 0), (1, .int x1), (2, .int x2), (3, .int x3), (4, .int x4), (5, .int x5)], [.int x5], (0, 0), ks i a (ku q 113 (mi_cpy (q 115) (q 113) x2.toNatClampNeg x4.toNatClampNeg x5.toNatClampNeg)) r) (by rfl) ?_
                        exact ft_ret mi_k117 (by rfl) (hP x5 _ _ _ _ hJ636 trivial)
                      ·
                        subst eg634
                        have fi_7171 : ((0 : Int) ≤ (i 7171).toInt) ∧ ((i 7171).toInt ≤ 60) := hG.I.1 7171
                        have z637 : ¬ (((0 : Int) ≤ x5.toInt) ∧ (x5.toInt ≤ (i 7171).toInt) ∧ ((0 : Int) ≤ x4.toInt) ∧ ((x4.toInt + x5.toInt) ≤ (i 7171).toInt)) := hg634
                        first | refine ft_go mi_k117 2 110 [(7, .ref 112), (6, .ref 114), (0, .ref 0), (1, .int x1), (2, .int x2), (3, .int x3), (4, .int x4), (5, .int x5)] [.int (-13)] i a q r (by rfl) ?_ | refine ko_steps mi_in117 2 _ (110, [(7, .ref 112), (6, .ref 114), (0, .ref 0), (1, .int x1), (2, .int x2), (3, .int x3), (4, .int x4), (5, .int x5)], [.int (-13)], (0, 0), ks i a q r) (by rfl) ?_
                        exact ft_ret mi_k117 (by rfl) (hP (-13) _ _ _ _ hG trivial)
                    ·
                      subst eg632
                      have fi_7299 : ((0 : Int) ≤ (i 7299).toInt) ∧ ((i 7299).toInt ≤ 60) := hG.I.1 7299
                      have z638 : ¬ (((0 : Int) ≤ x5.toInt) ∧ (x5.toInt ≤ (i 7299).toInt) ∧ ((0 : Int) ≤ x2.toInt) ∧ ((x2.toInt + x5.toInt) ≤ (i 7299).toInt)) := hg632
                      first | refine ft_go mi_k117 2 110 [(7, .ref 112), (6, .ref 114), (0, .ref 0), (1, .int x1), (2, .int x2), (3, .int x3), (4, .int x4), (5, .int x5)] [.int (-13)] i a q r (by rfl) ?_ | refine ko_steps mi_in117 2 _ (110, [(7, .ref 112), (6, .ref 114), (0, .ref 0), (1, .int x1), (2, .int x2), (3, .int x3), (4, .int x4), (5, .int x5)], [.int (-13)], (0, 0), ks i a q r) (by rfl) ?_
                      exact ft_ret mi_k117 (by rfl) (hP (-13) _ _ _ _ hG trivial)
                  ·
                    have c639 : (i 7298).toInt ≠ (i 7170).toInt := kd_eqF c; clear c
                    first | refine ft_go mi_k117 1 84 [(7, .ref 112), (6, .ref 114), (0, .ref 0), (1, .int x1), (2, .int x2), (3, .int x3), (4, .int x4), (5, .int x5)] [.int (-12)] i a q r (by rfl) ?_ | refine ko_steps mi_in117 1 _ (84, [(7, .ref 112), (6, .ref 114), (0, .ref 0), (1, .int x1), (2, .int x2), (3, .int x3), (4, .int x4), (5, .int x5)], [.int (-12)], (0, 0), ks i a q r) (by rfl) ?_
                    exact ft_ret mi_k117 (by rfl) (hP (-12) _ _ _ _ hG trivial)
            ·
              have c640 : (i 7168).toInt = (0 : Int32).toInt := kd_neF c; clear c
              first | refine ft_go mi_k117 1 50 [(7, .ref 112), (6, .ref 114), (0, .ref 0), (1, .int x1), (2, .int x2), (3, .int x3), (4, .int x4), (5, .int x5)] [.int (-11)] i a q r (by rfl) ?_ | refine ko_steps mi_in117 1 _ (50, [(7, .ref 112), (6, .ref 114), (0, .ref 0), (1, .int x1), (2, .int x2), (3, .int x3), (4, .int x4), (5, .int x5)], [.int (-11)], (0, 0), ks i a q r) (by rfl) ?_
              exact ft_ret mi_k117 (by rfl) (hP (-11) _ _ _ _ hG trivial)
        by_cases w641 : x3.toInt = 5
        ·
          refine ko_eq (x1 := (29, [(6, .ref 114), (0, .ref 0), (1, .int x1), (2, .int x2), (3, .int x3), (4, .int x4), (5, .int x5)], [.int 5, .ref 97], (0, 0), ks i a q r)) (by rw [(kj_eq w641 (by decide) : x3 = 5)]) ?_
          have fi_7296 : ((0 : Int) ≤ (i 7296).toInt) ∧ ((i 7296).toInt ≤ 2) := hG.I.1 7296
          first | refine ft_go mi_k117 4 37 [(7, .ref 114), (6, .ref 114), (0, .ref 0), (1, .int x1), (2, .int x2), (3, .int x3), (4, .int x4), (5, .int x5)] [.int (i 7296)] i a q r (by rfl) ?_ | refine ko_steps mi_in117 4 _ (37, [(7, .ref 114), (6, .ref 114), (0, .ref 0), (1, .int x1), (2, .int x2), (3, .int x3), (4, .int x4), (5, .int x5)], [.int (i 7296)], (0, 0), ks i a q r) (by rfl) ?_
          refine ft_if mi_k117 ((i 7296) == 0) 48 40 [(7, .ref 114), (6, .ref 114), (0, .ref 0), (1, .int x1), (2, .int x2), (3, .int x3), (4, .int x4), (5, .int x5)] [] (by rfl) (fun c => ?_) (fun c => ?_)
          ·
            have c642 : (i 7296).toInt = (0 : Int32).toInt := kd_eq c; clear c
            first | refine ft_go mi_k117 1 50 [(7, .ref 114), (6, .ref 114), (0, .ref 0), (1, .int x1), (2, .int x2), (3, .int x3), (4, .int x4), (5, .int x5)] [.int (-11)] i a q r (by rfl) ?_ | refine ko_steps mi_in117 1 _ (50, [(7, .ref 114), (6, .ref 114), (0, .ref 0), (1, .int x1), (2, .int x2), (3, .int x3), (4, .int x4), (5, .int x5)], [.int (-11)], (0, 0), ks i a q r) (by rfl) ?_
            exact ft_ret mi_k117 (by rfl) (hP (-11) _ _ _ _ hG trivial)
          ·
            have c643 : (i 7296).toInt ≠ (0 : Int32).toInt := kd_eqF c; clear c
            first | refine ft_go mi_k117 2 45 [(7, .ref 114), (6, .ref 114), (0, .ref 0), (1, .int x1), (2, .int x2), (3, .int x3), (4, .int x4), (5, .int x5)] [.int (i 7296)] i a q r (by rfl) ?_ | refine ko_steps mi_in117 2 _ (45, [(7, .ref 114), (6, .ref 114), (0, .ref 0), (1, .int x1), (2, .int x2), (3, .int x3), (4, .int x4), (5, .int x5)], [.int (i 7296)], (0, 0), ks i a q r) (by rfl) ?_
            refine ft_if mi_k117 ((i 7296) != 0) 51 48 [(7, .ref 114), (6, .ref 114), (0, .ref 0), (1, .int x1), (2, .int x2), (3, .int x3), (4, .int x4), (5, .int x5)] [] (by rfl) (fun c => ?_) (fun c => ?_)
            ·
              have c644 : (i 7296).toInt ≠ (0 : Int32).toInt := kd_ne c; clear c
              first | refine ft_go mi_k117 3 57 [(7, .ref 114), (6, .ref 114), (0, .ref 0), (1, .int x1), (2, .int x2), (3, .int x3), (4, .int x4), (5, .int x5)] [.int 2, .int (i 7296)] i a q r (by rfl) ?_ | refine ko_steps mi_in117 3 _ (57, [(7, .ref 114), (6, .ref 114), (0, .ref 0), (1, .int x1), (2, .int x2), (3, .int x3), (4, .int x4), (5, .int x5)], [.int 2, .int (i 7296)], (0, 0), ks i a q r) (by rfl) ?_
              refine ft_if mi_k117 ((i 7296) != 2) 82 60 [(7, .ref 114), (6, .ref 114), (0, .ref 0), (1, .int x1), (2, .int x2), (3, .int x3), (4, .int x4), (5, .int x5)] [] (by rfl) (fun c => ?_) (fun c => ?_)
              ·
                have c645 : (i 7296).toInt ≠ (2 : Int32).toInt := kd_ne c; clear c
                first | refine ft_go mi_k117 1 84 [(7, .ref 114), (6, .ref 114), (0, .ref 0), (1, .int x1), (2, .int x2), (3, .int x3), (4, .int x4), (5, .int x5)] [.int (-12)] i a q r (by rfl) ?_ | refine ko_steps mi_in117 1 _ (84, [(7, .ref 114), (6, .ref 114), (0, .ref 0), (1, .int x1), (2, .int x2), (3, .int x3), (4, .int x4), (5, .int x5)], [.int (-12)], (0, 0), ks i a q r) (by rfl) ?_
                exact ft_ret mi_k117 (by rfl) (hP (-12) _ _ _ _ hG trivial)
              ·
                have c646 : (i 7296).toInt = (2 : Int32).toInt := kd_neF c; clear c
                first | refine ft_go mi_k117 3 66 [(7, .ref 114), (6, .ref 114), (0, .ref 0), (1, .int x1), (2, .int x2), (3, .int x3), (4, .int x4), (5, .int x5)] [.int 2, .int (i 7296)] i a q r (by rfl) ?_ | refine ko_steps mi_in117 3 _ (66, [(7, .ref 114), (6, .ref 114), (0, .ref 0), (1, .int x1), (2, .int x2), (3, .int x3), (4, .int x4), (5, .int x5)], [.int 2, .int (i 7296)], (0, 0), ks i a q r) (by rfl) ?_
                refine ft_if mi_k117 ((i 7296) != 2) 82 69 [(7, .ref 114), (6, .ref 114), (0, .ref 0), (1, .int x1), (2, .int x2), (3, .int x3), (4, .int x4), (5, .int x5)] [] (by rfl) (fun c => ?_) (fun c => ?_)
                ·
                  have c647 : (i 7296).toInt ≠ (2 : Int32).toInt := kd_ne c; clear c
                  exact (oz1271 c646 c647 fi_7296.2 kn2).elim
                ·
                  have c648 : (i 7296).toInt = (2 : Int32).toInt := kd_neF c; clear c
                  have fi_7298 : ((0 : Int) ≤ (i 7298).toInt) ∧ ((i 7298).toInt ≤ 4) := hG.I.1 7298
                  first | refine ft_go mi_k117 4 79 [(7, .ref 114), (6, .ref 114), (0, .ref 0), (1, .int x1), (2, .int x2), (3, .int x3), (4, .int x4), (5, .int x5)] [.int (i 7298), .int (i 7298)] i a q r (by rfl) ?_ | refine ko_steps mi_in117 4 _ (79, [(7, .ref 114), (6, .ref 114), (0, .ref 0), (1, .int x1), (2, .int x2), (3, .int x3), (4, .int x4), (5, .int x5)], [.int (i 7298), .int (i 7298)], (0, 0), ks i a q r) (by rfl) ?_
                  refine ft_if mi_k117 ((i 7298) == (i 7298)) 85 82 [(7, .ref 114), (6, .ref 114), (0, .ref 0), (1, .int x1), (2, .int x2), (3, .int x3), (4, .int x4), (5, .int x5)] [] (by rfl) (fun c => ?_) (fun c => ?_)
                  ·
                    have c649 : (i 7298).toInt = (i 7298).toInt := kd_eq c; clear c
                    first | refine ft_go mi_k117 3 90 [(7, .ref 114), (6, .ref 114), (0, .ref 0), (1, .int x1), (2, .int x2), (3, .int x3), (4, .int x4), (5, .int x5)] [.int x5, .int x2, .ref 114] i a q r (by rfl) ?_ | refine ko_steps mi_in117 3 _ (90, [(7, .ref 114), (6, .ref 114), (0, .ref 0), (1, .int x1), (2, .int x2), (3, .int x3), (4, .int x4), (5, .int x5)], [.int x5, .int x2, .ref 114], (0, 0), ks i a q r) (by rfl) ?_
                    refine ko_callPI mi_k117.1 (pc := 90) (ls := [(7, .ref 114), (6, .ref 114), (0, .ref 0), (1, .int x1), (2, .int x2), (3, .int x3), (4, .int x4), (5, .int x5)]) (st := [.int x5, .int x2, .ref 114]) (h := ks i a q r) (i := (.invokevirtual 324, 3, 37, 0, 9, 0, 316)) (mi_k117.2 _ _ (by rfl)) (ft_invS mi_pq37 (by rfl)) (cy := mi_c37) mi_pq37 rfl (kc37_114 hG.I hG.R x2 x5) (by decide) ?_
                    intro vg650 hg650
                    rcases hg650 with ⟨eg650, hg650⟩ | ⟨eg650, hg650⟩
                    ·
                      subst eg650
                      have fi_7299 : ((0 : Int) ≤ (i 7299).toInt) ∧ ((i 7299).toInt ≤ 60) := hG.I.1 7299
                      have z651 : ((0 : Int) ≤ x5.toInt) ∧ (x5.toInt ≤ (i 7299).toInt) ∧ ((0 : Int) ≤ x2.toInt) ∧ ((x2.toInt + x5.toInt) ≤ (i 7299).toInt) := hg650
                      first | refine ft_go mi_k117 4 102 [(7, .ref 114), (6, .ref 114), (0, .ref 0), (1, .int x1), (2, .int x2), (3, .int x3), (4, .int x4), (5, .int x5)] [.int x5, .int x4, .ref 114] i a q r (by rfl) ?_ | refine ko_steps mi_in117 4 _ (102, [(7, .ref 114), (6, .ref 114), (0, .ref 0), (1, .int x1), (2, .int x2), (3, .int x3), (4, .int x4), (5, .int x5)], [.int x5, .int x4, .ref 114], (0, 0), ks i a q r) (by rfl) ?_
                      refine ko_callPI mi_k117.1 (pc := 102) (ls := [(7, .ref 114), (6, .ref 114), (0, .ref 0), (1, .int x1), (2, .int x2), (3, .int x3), (4, .int x4), (5, .int x5)]) (st := [.int x5, .int x4, .ref 114]) (h := ks i a q r) (i := (.invokevirtual 324, 3, 37, 0, 9, 0, 316)) (mi_k117.2 _ _ (by rfl)) (ft_invS mi_pq37 (by rfl)) (cy := mi_c37) mi_pq37 rfl (kc37_114 hG.I hG.R x4 x5) (by decide) ?_
                      intro vg652 hg652
                      rcases hg652 with ⟨eg652, hg652⟩ | ⟨eg652, hg652⟩
                      ·
                        subst eg652
                        have z653 : ((0 : Int) ≤ x5.toInt) ∧ (x5.toInt ≤ (i 7299).toInt) ∧ ((0 : Int) ≤ x4.toInt) ∧ ((x4.toInt + x5.toInt) ≤ (i 7299).toInt) := hg652
                        first | refine ft_go mi_k117 8 126 [(7, .ref 114), (6, .ref 114), (0, .ref 0), (1, .int x1), (2, .int x2), (3, .int x3), (4, .int x4), (5, .int x5)] [.int x5, .int x4, .ref 115, .int x2, .ref 115] i a q r (by rfl) ?_ | refine ko_steps mi_in117 8 _ (126, [(7, .ref 114), (6, .ref 114), (0, .ref 0), (1, .int x1), (2, .int x2), (3, .int x3), (4, .int x4), (5, .int x5)], [.int x5, .int x4, .ref 115, .int x2, .ref 115], (0, 0), ks i a q r) (by rfl) ?_
                        have hJ654 := kG_q hG 115 rfl (z := mi_cpy (q 115) (q 115) x2.toNatClampNeg x4.toNatClampNeg x5.toNatClampNeg) (kcpy_len2 (n := 60) (c := 60) (m := 60) (b := 60) (sp := x2) (dp := x4) (n1 := x5) (hG.I.2.2.2 115) rfl (hG.I.2.2.2 115) rfl (oz3 z651.1) (oz3 z651.2.2.1) (oz3 z653.2.2.1) (oz1278 fi_7299.2 z651.2.2.2) (oz1278 fi_7299.2 z653.2.2.2))
                        refine ko_copyL2 mi_k117.1 (l := q 115) (g := q 115) (n := 60) (c := 60) (m := 60) (b := 60) (mi_k117.2 _ _ (by rfl)) (by rfl) (by rfl) (by rfl) (by rfl) (by rfl) (hG.I.2.2.2 115) rfl (hG.I.2.2.2 115) rfl (oz3 z651.1) (oz3 z651.2.2.1) (oz3 z653.2.2.1) (oz1278 fi_7299.2 z651.2.2.2) (oz1278 fi_7299.2 z653.2.2.2) (h5 := ks i a (ku q 115 (mi_cpy (q 115) (q 115) x2.toNatClampNeg x4.toNatClampNeg x5.toNatClampNeg)) r) (by rfl) ?_
                        first | refine ft_go mi_k117 1 131 [(7, .ref 114), (6, .ref 114), (0, .ref 0), (1, .int x1), (2, .int x2), (3, .int x3), (4, .int x4), (5, .int x5)] [.int x5] i a (ku q 115 (mi_cpy (q 115) (q 115) x2.toNatClampNeg x4.toNatClampNeg x5.toNatClampNeg)) r (by rfl) ?_ | refine ko_steps mi_in117 1 _ (131, [(7, .ref 114), (6, .ref 114), (0, .ref 0), (1, .int x1), (2, .int x2), (3, .int x3), (4, .int x4), (5, .int x5)], [.int x5], (0, 0), ks i a (ku q 115 (mi_cpy (q 115) (q 115) x2.toNatClampNeg x4.toNatClampNeg x5.toNatClampNeg)) r) (by rfl) ?_
                        exact ft_ret mi_k117 (by rfl) (hP x5 _ _ _ _ hJ654 trivial)
                      ·
                        subst eg652
                        have z655 : ¬ (((0 : Int) ≤ x5.toInt) ∧ (x5.toInt ≤ (i 7299).toInt) ∧ ((0 : Int) ≤ x4.toInt) ∧ ((x4.toInt + x5.toInt) ≤ (i 7299).toInt)) := hg652
                        first | refine ft_go mi_k117 2 110 [(7, .ref 114), (6, .ref 114), (0, .ref 0), (1, .int x1), (2, .int x2), (3, .int x3), (4, .int x4), (5, .int x5)] [.int (-13)] i a q r (by rfl) ?_ | refine ko_steps mi_in117 2 _ (110, [(7, .ref 114), (6, .ref 114), (0, .ref 0), (1, .int x1), (2, .int x2), (3, .int x3), (4, .int x4), (5, .int x5)], [.int (-13)], (0, 0), ks i a q r) (by rfl) ?_
                        exact ft_ret mi_k117 (by rfl) (hP (-13) _ _ _ _ hG trivial)
                    ·
                      subst eg650
                      have fi_7299 : ((0 : Int) ≤ (i 7299).toInt) ∧ ((i 7299).toInt ≤ 60) := hG.I.1 7299
                      have z656 : ¬ (((0 : Int) ≤ x5.toInt) ∧ (x5.toInt ≤ (i 7299).toInt) ∧ ((0 : Int) ≤ x2.toInt) ∧ ((x2.toInt + x5.toInt) ≤ (i 7299).toInt)) := hg650
                      first | refine ft_go mi_k117 2 110 [(7, .ref 114), (6, .ref 114), (0, .ref 0), (1, .int x1), (2, .int x2), (3, .int x3), (4, .int x4), (5, .int x5)] [.int (-13)] i a q r (by rfl) ?_ | refine ko_steps mi_in117 2 _ (110, [(7, .ref 114), (6, .ref 114), (0, .ref 0), (1, .int x1), (2, .int x2), (3, .int x3), (4, .int x4), (5, .int x5)], [.int (-13)], (0, 0), ks i a q r) (by rfl) ?_
                      exact ft_ret mi_k117 (by rfl) (hP (-13) _ _ _ _ hG trivial)
                  ·
                    have c657 : (i 7298).toInt ≠ (i 7298).toInt := kd_eqF c; clear c
                    exact (oz1279 c657).elim
            ·
              have c658 : (i 7296).toInt = (0 : Int32).toInt := kd_neF c; clear c
              exact (oz1281 c643 c658 fi_7296.1 kn0).elim
        exact (oz1245 w551 w569 w587 w605 w623 w641 z4.1 z4.2).elim
      exact (oz1282 w114 w223 w332 w441 w5 w550 z2.1 z2.2).elim
    ·
      subst eg3
      have z659 : ¬ (((0 : Int) ≤ x3.toInt) ∧ (x3.toInt ≤ 5)) := hg3
      first | refine ft_go mi_k117 2 15 [(0, .ref 0), (1, .int x1), (2, .int x2), (3, .int x3), (4, .int x4), (5, .int x5)] [.int (-1)] i a q r (by rfl) ?_ | refine ko_steps mi_in117 2 _ (15, [(0, .ref 0), (1, .int x1), (2, .int x2), (3, .int x3), (4, .int x4), (5, .int x5)], [.int (-1)], (0, 0), ks i a q r) (by rfl) ?_
      exact ft_ret mi_k117 (by rfl) (hP (-1) _ _ _ _ hG trivial)
  ·
    subst eg1
    have z660 : ¬ (((0 : Int) ≤ x1.toInt) ∧ (x1.toInt ≤ 5)) := hg1
    first | refine ft_go mi_k117 2 15 [(0, .ref 0), (1, .int x1), (2, .int x2), (3, .int x3), (4, .int x4), (5, .int x5)] [.int (-1)] i a q r (by rfl) ?_ | refine ko_steps mi_in117 2 _ (15, [(0, .ref 0), (1, .int x1), (2, .int x2), (3, .int x3), (4, .int x4), (5, .int x5)], [.int (-1)], (0, 0), ks i a q r) (by rfl) ?_
    exact ft_ret mi_k117 (by rfl) (hP (-1) _ _ _ _ hG trivial)
