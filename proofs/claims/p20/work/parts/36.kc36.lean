theorem oz1248 {a0 : Int} (h0 : ¬ (a0 = 2)) (h1 : ¬ (a0 = 3)) (h2 : ¬ (a0 = 4)) (h3 : ¬ (a0 = 5)) (h4 : ¬ (a0 = 0)) (h5 : ¬ (a0 = 1)) (h6 : (0 : Int) ≤ a0) (h7 : a0 ≤ 5) : False := by omega
theorem oz1249 {a0 a1 a2 a3 a4 a5 : Int} (h0 : a0 ≤ 60) (h1 : a1 = a0 - a2) (h2 : (0 : Int) ≤ a3) (h3 : a3 ≤ 5) (h4 : a4 ≤ a5) (h5 : a5 ≤ a1) (h6 : a2 = 1) (h7 : a4 = 0) : (a4 < 0) ∨ ((a4 = 0) ∧ ((0 : Int) ≤ a3) ∧ (a3 ≤ 5) ∧ ((0 : Int) ≤ a5) ∧ (a5 ≤ 59)) := by omega
theorem oz1250 {a0 a1 a2 : Int} (h0 : a0 = (-13)) : (a0 < 0) ∨ ((a0 = 0) ∧ ((0 : Int) ≤ a1) ∧ (a1 ≤ 5) ∧ ((0 : Int) ≤ a2) ∧ (a2 ≤ 59)) := by omega
theorem oz1251 {a0 a1 a2 : Int} (h0 : a0 = (-12)) : (a0 < 0) ∨ ((a0 = 0) ∧ ((0 : Int) ≤ a1) ∧ (a1 ≤ 5) ∧ ((0 : Int) ≤ a2) ∧ (a2 ≤ 59)) := by omega
theorem oz1252 {a0 a1 a2 : Int} (h0 : a0 = (-11)) : (a0 < 0) ∨ ((a0 = 0) ∧ ((0 : Int) ≤ a1) ∧ (a1 ≤ 5) ∧ ((0 : Int) ≤ a2) ∧ (a2 ≤ 59)) := by omega
theorem oz1253 {a0 a1 a2 a3 a4 a5 : Int} (h0 : a0 ≤ 60) (h1 : a1 = a0 - a2) (h2 : a3 = 1) (h3 : a4 ≤ a5) (h4 : a5 ≤ a1) (h5 : a3 ≤ 5) (h6 : a2 = 1) (h7 : a4 = 0) : (a4 < 0) ∨ ((a4 = 0) ∧ ((0 : Int) ≤ a3) ∧ (a3 ≤ 5) ∧ ((0 : Int) ≤ a5) ∧ (a5 ≤ 59)) := by omega
theorem oz1254 {a0 a1 a2 a3 a4 a5 : Int} (h0 : a0 ≤ 60) (h1 : a1 = a0 - a2) (h2 : a3 = 2) (h3 : a3 ≤ 5) (h4 : a4 ≤ a5) (h5 : a5 ≤ a1) (h6 : a2 = 1) (h7 : a4 = 0) : (a4 < 0) ∨ ((a4 = 0) ∧ ((0 : Int) ≤ a3) ∧ (a3 ≤ 5) ∧ ((0 : Int) ≤ a5) ∧ (a5 ≤ 59)) := by omega
theorem oz1255 {a0 a1 a2 a3 a4 a5 : Int} (h0 : a0 ≤ 60) (h1 : a1 = a0 - a2) (h2 : a3 = 3) (h3 : a3 ≤ 5) (h4 : a4 ≤ a5) (h5 : a5 ≤ a1) (h6 : a2 = 1) (h7 : a4 = 0) : (a4 < 0) ∨ ((a4 = 0) ∧ ((0 : Int) ≤ a3) ∧ (a3 ≤ 5) ∧ ((0 : Int) ≤ a5) ∧ (a5 ≤ 59)) := by omega
theorem oz1256 {a0 a1 a2 a3 a4 a5 : Int} (h0 : a0 ≤ 60) (h1 : a1 = a0 - a2) (h2 : a3 = 4) (h3 : a3 ≤ 5) (h4 : a4 ≤ a5) (h5 : a5 ≤ a1) (h6 : a2 = 1) (h7 : a4 = 0) : (a4 < 0) ∨ ((a4 = 0) ∧ ((0 : Int) ≤ a3) ∧ (a3 ≤ 5) ∧ ((0 : Int) ≤ a5) ∧ (a5 ≤ 59)) := by omega
theorem oz1257 {a0 a1 a2 a3 a4 a5 : Int} (h0 : a0 ≤ 60) (h1 : a1 = a0 - a2) (h2 : a3 = 5) (h3 : a3 ≤ 5) (h4 : a4 ≤ a5) (h5 : a5 ≤ a1) (h6 : a2 = 1) (h7 : a4 = 0) : (a4 < 0) ∨ ((a4 = 0) ∧ ((0 : Int) ≤ a3) ∧ (a3 ≤ 5) ∧ ((0 : Int) ≤ a5) ∧ (a5 ≤ 59)) := by omega
theorem oz1258 {a0 a1 a2 : Int} (h0 : a0 = (-1)) : (a0 < 0) ∨ ((a0 = 0) ∧ ((0 : Int) ≤ a1) ∧ (a1 ≤ 5) ∧ ((0 : Int) ≤ a2) ∧ (a2 ≤ 59)) := by omega
theorem oz1261 {a0 a1 a2 a3 : Int} (h0 : a0 ≤ a1) (h1 : (a1 < 0) ∨ ((a1 = 0) ∧ ((0 : Int) ≤ a2) ∧ (a2 ≤ 5) ∧ ((0 : Int) ≤ a3) ∧ (a3 ≤ 59))) (h2 : a0 = 0) : (0 : Int) ≤ a3 := by omega
theorem oz1262 {a0 a1 a2 a3 : Int} (h0 : a0 ≤ a1) (h1 : (a1 < 0) ∨ ((a1 = 0) ∧ ((0 : Int) ≤ a2) ∧ (a2 ≤ 5) ∧ ((0 : Int) ≤ a3) ∧ (a3 ≤ 59))) (h2 : a0 = 0) : a3 < 60 := by omega
theorem oz1263 {a0 : Int} (h0 : a0 = 0) (h1 : ¬ (a0 = 0)) : False := by omega
theorem oz1270 {a0 a1 a2 a3 : Int} (h0 : a0 ≤ a1) (h1 : ¬ (a2 = 0)) (h2 : ¬ (a2 = 1)) (h3 : ¬ (a2 = 2)) (h4 : ¬ (a2 = 3)) (h5 : ¬ (a2 = 4)) (h6 : ¬ (a2 = 5)) (h7 : (a1 < 0) ∨ ((a1 = 0) ∧ ((0 : Int) ≤ a2) ∧ (a2 ≤ 5) ∧ ((0 : Int) ≤ a3) ∧ (a3 ≤ 59))) (h8 : a0 = 0) : False := by omega
theorem oz1271 {a0 a1 : Int} (h0 : a0 = a1) (h1 : a0 ≠ a1) (h2 : a0 ≤ 2) (h3 : a1 = 2) : False := by omega
theorem oz1272 {a0 a1 a2 a3 : Int} (h0 : a0 < a1) (h1 : a1 = 0) : ¬ (((0 : Int) ≤ a0) ∧ (a0 ≤ a2) ∧ ((0 : Int) ≤ a3) ∧ ((a3 + a0) ≤ a2)) := by omega
theorem oz1273 {a0 a1 a2 : Int} (h0 : a0 < a1) : ¬ (((0 : Int) ≤ a1) ∧ (a1 ≤ a0) ∧ ((0 : Int) ≤ a2) ∧ ((a2 + a1) ≤ a0)) := by omega
theorem oz1274 {a0 a1 a2 a3 : Int} (h0 : a0 < a1) (h1 : a1 = 0) : ¬ (((0 : Int) ≤ a2) ∧ (a2 ≤ a3) ∧ ((0 : Int) ≤ a0) ∧ ((a0 + a2) ≤ a3)) := by omega
theorem oz1275 {a0 a1 a2 : Int} (h0 : a0 ≤ a1) (h1 : a2 ≤ 60) (h2 : a0 = 0) : a2 - a1 ≤ 2147483647 := by omega
theorem oz1276 {a0 a1 a2 a3 : Int} (h0 : a0 < a1) (h1 : a0 = a2 - a3) : ¬ (((0 : Int) ≤ a3) ∧ (a3 ≤ a2) ∧ ((0 : Int) ≤ a1) ∧ ((a1 + a3) ≤ a2)) := by omega
theorem oz1277 {a0 a1 a2 a3 a4 : Int} (h0 : a0 ≤ a1) (h1 : a1 ≤ a2) (h2 : a0 ≤ a3) (h3 : a3 ≤ a4) (h4 : a4 = a2 - a1) (h5 : a0 = 0) : ((0 : Int) ≤ a1) ∧ (a1 ≤ a2) ∧ ((0 : Int) ≤ a3) ∧ ((a3 + a1) ≤ a2) := by omega
theorem oz1278 {a0 a1 a2 : Int} (h0 : a0 ≤ 60) (h1 : (a1 + a2) ≤ a0) : a1 + a2 ≤ 60 := by omega
theorem oz1279 {a0 : Int} (h0 : a0 ≠ a0) : False := by omega
theorem oz1280 {a0 a1 : Int} (h0 : a0 = a1) (h1 : a0 ≠ a1) (h2 : (0 : Int) ≤ a0) (h3 : a1 = 0) : False := by omega
theorem oz1281 {a0 a1 : Int} (h0 : a0 ≠ a1) (h1 : a0 = a1) (h2 : (0 : Int) ≤ a0) (h3 : a1 = 0) : False := by omega
theorem oz1282 {a0 : Int} (h0 : ¬ (a0 = 1)) (h1 : ¬ (a0 = 2)) (h2 : ¬ (a0 = 3)) (h3 : ¬ (a0 = 4)) (h4 : ¬ (a0 = 0)) (h5 : ¬ (a0 = 5)) (h6 : (0 : Int) ≤ a0) (h7 : a0 ≤ 5) : False := by omega
set_option maxRecDepth 100000 in
theorem kc128_0 {i : Nat → Int32} {a : Nat → List Int32} {q : Nat → List Int64} {r : Nat → Nat} (hI : kI i a q) (hr : kr r) (x1 : Int32) (x2 : Int32) : km 5 128 [.ref 0, .int x1, .int x2] (ks i a q r) (kPI (ks i a q r) (fun v => (v.toInt < 0) ∨ ((v.toInt = 0) ∧ ((0 : Int) ≤ x1.toInt) ∧ (x1.toInt ≤ 5) ∧ ((0 : Int) ≤ x2.toInt) ∧ (x2.toInt ≤ 59)))) := by
  have hG := kG_self kW0 hI hr
  refine km_ofPI (q := (mi_h128, mi_c128)) rfl (by decide) (Nat.le_of_ble_eq_true rfl) ?_
  intro P hP
  first | refine ft_go mi_k128 1 1 [(0, .ref 0), (1, .int x1), (2, .int x2)] [.int x1] i a q r (by rfl) ?_ | refine ko_steps mi_in128 1 _ (1, [(0, .ref 0), (1, .int x1), (2, .int x2)], [.int x1], (0, 0), ks i a q r) (by rfl) ?_
  refine ko_callPI mi_k128.1 (pc := 1) (ls := [(0, .ref 0), (1, .int x1), (2, .int x2)]) (st := [.int x1]) (h := ks i a q r) (i := (.invokestatic 70, 3, 121, 0, 9, 0, 157)) (mi_k128.2 _ _ (by rfl)) (ft_invS mi_pq121 (by rfl)) (cy := mi_c121) mi_pq121 rfl (kc121 hG.I hG.R x1) (by decide) ?_
  intro vg1 hg1
  rcases hg1 with ⟨eg1, hg1⟩ | ⟨eg1, hg1⟩
  ·
    subst eg1
    have z2 : ((0 : Int) ≤ x1.toInt) ∧ (x1.toInt ≤ 5) := hg1
    first | refine ft_go mi_k128 4 14 [(0, .ref 0), (1, .int x1), (2, .int x2)] [.int x1, .ref 97] i a q r (by rfl) ?_ | refine ko_steps mi_in128 4 _ (14, [(0, .ref 0), (1, .int x1), (2, .int x2)], [.int x1, .ref 97], (0, 0), ks i a q r) (by rfl) ?_
    by_cases w3 : x1.toInt = 0
    ·
      refine ko_eq (x1 := (14, [(0, .ref 0), (1, .int x1), (2, .int x2)], [.int 0, .ref 97], (0, 0), ks i a q r)) (by rw [(kj_eq w3 (by decide) : x1 = 0)]) ?_
      first | refine ft_go mi_k128 4 20 [(3, .ref 104), (0, .ref 0), (1, .int x1), (2, .int x2)] [.int (i 6656)] i a q r (by rfl) ?_ | refine ko_steps mi_in128 4 _ (20, [(3, .ref 104), (0, .ref 0), (1, .int x1), (2, .int x2)], [.int (i 6656)], (0, 0), ks i a q r) (by rfl) ?_
      refine ft_if mi_k128 ((i 6656) != 0) 26 23 [(3, .ref 104), (0, .ref 0), (1, .int x1), (2, .int x2)] [] (by rfl) (fun c => ?_) (fun c => ?_)
      ·
        have c4 : (i 6656).toInt ≠ (0 : Int32).toInt := kd_ne c; clear c
        first | refine ft_go mi_k128 3 31 [(3, .ref 104), (0, .ref 0), (1, .int x1), (2, .int x2)] [.int 2, .int (i 6656)] i a q r (by rfl) ?_ | refine ko_steps mi_in128 3 _ (31, [(3, .ref 104), (0, .ref 0), (1, .int x1), (2, .int x2)], [.int 2, .int (i 6656)], (0, 0), ks i a q r) (by rfl) ?_
        refine ft_if mi_k128 ((i 6656) == 2) 37 34 [(3, .ref 104), (0, .ref 0), (1, .int x1), (2, .int x2)] [] (by rfl) (fun c => ?_) (fun c => ?_)
        ·
          have c5 : (i 6656).toInt = (2 : Int32).toInt := kd_eq c; clear c
          have fi_6659 : ((0 : Int) ≤ (i 6659).toInt) ∧ ((i 6659).toInt ≤ 60) := hG.I.1 6659
          have s6 : ((i 6659) - 1).toInt = (i 6659).toInt - (1 : Int32).toInt := kd_sub (oz47 fi_6659.1 kn1) (oz602 fi_6659.2 kn1)
          first | refine ft_go mi_k128 6 45 [(3, .ref 104), (0, .ref 0), (1, .int x1), (2, .int x2)] [.int ((i 6659) - 1), .int 0, .int x2] i a q r (by rfl) ?_ | refine ko_steps mi_in128 6 _ (45, [(3, .ref 104), (0, .ref 0), (1, .int x1), (2, .int x2)], [.int ((i 6659) - 1), .int 0, .int x2], (0, 0), ks i a q r) (by rfl) ?_
          refine ko_callPI mi_k128.1 (pc := 45) (ls := [(3, .ref 104), (0, .ref 0), (1, .int x1), (2, .int x2)]) (st := [.int ((i 6659) - 1), .int 0, .int x2]) (h := ks i a q r) (i := (.invokestatic 74, 3, 120, 0, 9, 0, 152)) (mi_k128.2 _ _ (by rfl)) (ft_invS mi_pq120 (by rfl)) (cy := mi_c120) mi_pq120 rfl (kc120 hG.I hG.R x2 0 ((i 6659) - 1)) (by decide) ?_
          intro vg7 hg7
          rcases hg7 with ⟨eg7, hg7⟩ | ⟨eg7, hg7⟩
          ·
            subst eg7
            have z8 : ((0 : Int32).toInt ≤ x2.toInt) ∧ (x2.toInt ≤ ((i 6659) - 1).toInt) := hg7
            first | refine ft_go mi_k128 3 57 [(3, .ref 104), (0, .ref 0), (1, .int x1), (2, .int x2)] [.int 0] i a q r (by rfl) ?_ | refine ko_steps mi_in128 3 _ (57, [(3, .ref 104), (0, .ref 0), (1, .int x1), (2, .int x2)], [.int 0], (0, 0), ks i a q r) (by rfl) ?_
            exact ft_ret mi_k128 (by rfl) (hP 0 (oz1249 fi_6659.2 s6 z2.1 z2.2 z8.1 z8.2 kn1 kn0))
          ·
            subst eg7
            first | refine ft_go mi_k128 2 57 [(3, .ref 104), (0, .ref 0), (1, .int x1), (2, .int x2)] [.int (-13)] i a q r (by rfl) ?_ | refine ko_steps mi_in128 2 _ (57, [(3, .ref 104), (0, .ref 0), (1, .int x1), (2, .int x2)], [.int (-13)], (0, 0), ks i a q r) (by rfl) ?_
            exact ft_ret mi_k128 (by rfl) (hP (-13) (oz1250 knm13))
        ·
          have c10 : (i 6656).toInt ≠ (2 : Int32).toInt := kd_eqF c; clear c
          first | refine ft_go mi_k128 1 36 [(3, .ref 104), (0, .ref 0), (1, .int x1), (2, .int x2)] [.int (-12)] i a q r (by rfl) ?_ | refine ko_steps mi_in128 1 _ (36, [(3, .ref 104), (0, .ref 0), (1, .int x1), (2, .int x2)], [.int (-12)], (0, 0), ks i a q r) (by rfl) ?_
          exact ft_ret mi_k128 (by rfl) (hP (-12) (oz1251 knm12))
      ·
        have c11 : (i 6656).toInt = (0 : Int32).toInt := kd_neF c; clear c
        first | refine ft_go mi_k128 1 25 [(3, .ref 104), (0, .ref 0), (1, .int x1), (2, .int x2)] [.int (-11)] i a q r (by rfl) ?_ | refine ko_steps mi_in128 1 _ (25, [(3, .ref 104), (0, .ref 0), (1, .int x1), (2, .int x2)], [.int (-11)], (0, 0), ks i a q r) (by rfl) ?_
        exact ft_ret mi_k128 (by rfl) (hP (-11) (oz1252 knm11))
    by_cases w12 : x1.toInt = 1
    ·
      refine ko_eq (x1 := (14, [(0, .ref 0), (1, .int x1), (2, .int x2)], [.int 1, .ref 97], (0, 0), ks i a q r)) (by rw [(kj_eq w12 (by decide) : x1 = 1)]) ?_
      first | refine ft_go mi_k128 4 20 [(3, .ref 106), (0, .ref 0), (1, .int x1), (2, .int x2)] [.int (i 6784)] i a q r (by rfl) ?_ | refine ko_steps mi_in128 4 _ (20, [(3, .ref 106), (0, .ref 0), (1, .int x1), (2, .int x2)], [.int (i 6784)], (0, 0), ks i a q r) (by rfl) ?_
      refine ft_if mi_k128 ((i 6784) != 0) 26 23 [(3, .ref 106), (0, .ref 0), (1, .int x1), (2, .int x2)] [] (by rfl) (fun c => ?_) (fun c => ?_)
      ·
        have c13 : (i 6784).toInt ≠ (0 : Int32).toInt := kd_ne c; clear c
        first | refine ft_go mi_k128 3 31 [(3, .ref 106), (0, .ref 0), (1, .int x1), (2, .int x2)] [.int 2, .int (i 6784)] i a q r (by rfl) ?_ | refine ko_steps mi_in128 3 _ (31, [(3, .ref 106), (0, .ref 0), (1, .int x1), (2, .int x2)], [.int 2, .int (i 6784)], (0, 0), ks i a q r) (by rfl) ?_
        refine ft_if mi_k128 ((i 6784) == 2) 37 34 [(3, .ref 106), (0, .ref 0), (1, .int x1), (2, .int x2)] [] (by rfl) (fun c => ?_) (fun c => ?_)
        ·
          have c14 : (i 6784).toInt = (2 : Int32).toInt := kd_eq c; clear c
          have fi_6787 : ((0 : Int) ≤ (i 6787).toInt) ∧ ((i 6787).toInt ≤ 60) := hG.I.1 6787
          have s15 : ((i 6787) - 1).toInt = (i 6787).toInt - (1 : Int32).toInt := kd_sub (oz47 fi_6787.1 kn1) (oz602 fi_6787.2 kn1)
          first | refine ft_go mi_k128 6 45 [(3, .ref 106), (0, .ref 0), (1, .int x1), (2, .int x2)] [.int ((i 6787) - 1), .int 0, .int x2] i a q r (by rfl) ?_ | refine ko_steps mi_in128 6 _ (45, [(3, .ref 106), (0, .ref 0), (1, .int x1), (2, .int x2)], [.int ((i 6787) - 1), .int 0, .int x2], (0, 0), ks i a q r) (by rfl) ?_
          refine ko_callPI mi_k128.1 (pc := 45) (ls := [(3, .ref 106), (0, .ref 0), (1, .int x1), (2, .int x2)]) (st := [.int ((i 6787) - 1), .int 0, .int x2]) (h := ks i a q r) (i := (.invokestatic 74, 3, 120, 0, 9, 0, 152)) (mi_k128.2 _ _ (by rfl)) (ft_invS mi_pq120 (by rfl)) (cy := mi_c120) mi_pq120 rfl (kc120 hG.I hG.R x2 0 ((i 6787) - 1)) (by decide) ?_
          intro vg16 hg16
          rcases hg16 with ⟨eg16, hg16⟩ | ⟨eg16, hg16⟩
          ·
            subst eg16
            have z17 : ((0 : Int32).toInt ≤ x2.toInt) ∧ (x2.toInt ≤ ((i 6787) - 1).toInt) := hg16
            first | refine ft_go mi_k128 3 57 [(3, .ref 106), (0, .ref 0), (1, .int x1), (2, .int x2)] [.int 0] i a q r (by rfl) ?_ | refine ko_steps mi_in128 3 _ (57, [(3, .ref 106), (0, .ref 0), (1, .int x1), (2, .int x2)], [.int 0], (0, 0), ks i a q r) (by rfl) ?_
            exact ft_ret mi_k128 (by rfl) (hP 0 (oz1253 fi_6787.2 s15 w12 z17.1 z17.2 z2.2 kn1 kn0))
          ·
            subst eg16
            first | refine ft_go mi_k128 2 57 [(3, .ref 106), (0, .ref 0), (1, .int x1), (2, .int x2)] [.int (-13)] i a q r (by rfl) ?_ | refine ko_steps mi_in128 2 _ (57, [(3, .ref 106), (0, .ref 0), (1, .int x1), (2, .int x2)], [.int (-13)], (0, 0), ks i a q r) (by rfl) ?_
            exact ft_ret mi_k128 (by rfl) (hP (-13) (oz1250 knm13))
        ·
          have c19 : (i 6784).toInt ≠ (2 : Int32).toInt := kd_eqF c; clear c
          first | refine ft_go mi_k128 1 36 [(3, .ref 106), (0, .ref 0), (1, .int x1), (2, .int x2)] [.int (-12)] i a q r (by rfl) ?_ | refine ko_steps mi_in128 1 _ (36, [(3, .ref 106), (0, .ref 0), (1, .int x1), (2, .int x2)], [.int (-12)], (0, 0), ks i a q r) (by rfl) ?_
          exact ft_ret mi_k128 (by rfl) (hP (-12) (oz1251 knm12))
      ·
        have c20 : (i 6784).toInt = (0 : Int32).toInt := kd_neF c; clear c
        first | refine ft_go mi_k128 1 25 [(3, .ref 106), (0, .ref 0), (1, .int x1), (2, .int x2)] [.int (-11)] i a q r (by rfl) ?_ | refine ko_steps mi_in128 1 _ (25, [(3, .ref 106), (0, .ref 0), (1, .int x1), (2, .int x2)], [.int (-11)], (0, 0), ks i a q r) (by rfl) ?_
        exact ft_ret mi_k128 (by rfl) (hP (-11) (oz1252 knm11))
    by_cases w21 : x1.toInt = 2
    ·
      refine ko_eq (x1 := (14, [(0, .ref 0), (1, .int x1), (2, .int x2)], [.int 2, .ref 97], (0, 0), ks i a q r)) (by rw [(kj_eq w21 (by decide) : x1 = 2)]) ?_
      first | refine ft_go mi_k128 4 20 [(3, .ref 108), (0, .ref 0), (1, .int x1), (2, .int x2)] [.int (i 6912)] i a q r (by rfl) ?_ | refine ko_steps mi_in128 4 _ (20, [(3, .ref 108), (0, .ref 0), (1, .int x1), (2, .int x2)], [.int (i 6912)], (0, 0), ks i a q r) (by rfl) ?_
      refine ft_if mi_k128 ((i 6912) != 0) 26 23 [(3, .ref 108), (0, .ref 0), (1, .int x1), (2, .int x2)] [] (by rfl) (fun c => ?_) (fun c => ?_)
      ·
        have c22 : (i 6912).toInt ≠ (0 : Int32).toInt := kd_ne c; clear c
        first | refine ft_go mi_k128 3 31 [(3, .ref 108), (0, .ref 0), (1, .int x1), (2, .int x2)] [.int 2, .int (i 6912)] i a q r (by rfl) ?_ | refine ko_steps mi_in128 3 _ (31, [(3, .ref 108), (0, .ref 0), (1, .int x1), (2, .int x2)], [.int 2, .int (i 6912)], (0, 0), ks i a q r) (by rfl) ?_
        refine ft_if mi_k128 ((i 6912) == 2) 37 34 [(3, .ref 108), (0, .ref 0), (1, .int x1), (2, .int x2)] [] (by rfl) (fun c => ?_) (fun c => ?_)
        ·
          have c23 : (i 6912).toInt = (2 : Int32).toInt := kd_eq c; clear c
          have fi_6915 : ((0 : Int) ≤ (i 6915).toInt) ∧ ((i 6915).toInt ≤ 60) := hG.I.1 6915
          have s24 : ((i 6915) - 1).toInt = (i 6915).toInt - (1 : Int32).toInt := kd_sub (oz47 fi_6915.1 kn1) (oz602 fi_6915.2 kn1)
          first | refine ft_go mi_k128 6 45 [(3, .ref 108), (0, .ref 0), (1, .int x1), (2, .int x2)] [.int ((i 6915) - 1), .int 0, .int x2] i a q r (by rfl) ?_ | refine ko_steps mi_in128 6 _ (45, [(3, .ref 108), (0, .ref 0), (1, .int x1), (2, .int x2)], [.int ((i 6915) - 1), .int 0, .int x2], (0, 0), ks i a q r) (by rfl) ?_
          refine ko_callPI mi_k128.1 (pc := 45) (ls := [(3, .ref 108), (0, .ref 0), (1, .int x1), (2, .int x2)]) (st := [.int ((i 6915) - 1), .int 0, .int x2]) (h := ks i a q r) (i := (.invokestatic 74, 3, 120, 0, 9, 0, 152)) (mi_k128.2 _ _ (by rfl)) (ft_invS mi_pq120 (by rfl)) (cy := mi_c120) mi_pq120 rfl (kc120 hG.I hG.R x2 0 ((i 6915) - 1)) (by decide) ?_
          intro vg25 hg25
          rcases hg25 with ⟨eg25, hg25⟩ | ⟨eg25, hg25⟩
          ·
            subst eg25
            have z26 : ((0 : Int32).toInt ≤ x2.toInt) ∧ (x2.toInt ≤ ((i 6915) - 1).toInt) := hg25
            first | refine ft_go mi_k128 3 57 [(3, .ref 108), (0, .ref 0), (1, .int x1), (2, .int x2)] [.int 0] i a q r (by rfl) ?_ | refine ko_steps mi_in128 3 _ (57, [(3, .ref 108), (0, .ref 0), (1, .int x1), (2, .int x2)], [.int 0], (0, 0), ks i a q r) (by rfl) ?_
            exact ft_ret mi_k128 (by rfl) (hP 0 (oz1254 fi_6915.2 s24 w21 z2.2 z26.1 z26.2 kn1 kn0))
          ·
            subst eg25
            first | refine ft_go mi_k128 2 57 [(3, .ref 108), (0, .ref 0), (1, .int x1), (2, .int x2)] [.int (-13)] i a q r (by rfl) ?_ | refine ko_steps mi_in128 2 _ (57, [(3, .ref 108), (0, .ref 0), (1, .int x1), (2, .int x2)], [.int (-13)], (0, 0), ks i a q r) (by rfl) ?_
            exact ft_ret mi_k128 (by rfl) (hP (-13) (oz1250 knm13))
        ·
          have c28 : (i 6912).toInt ≠ (2 : Int32).toInt := kd_eqF c; clear c
          first | refine ft_go mi_k128 1 36 [(3, .ref 108), (0, .ref 0), (1, .int x1), (2, .int x2)] [.int (-12)] i a q r (by rfl) ?_ | refine ko_steps mi_in128 1 _ (36, [(3, .ref 108), (0, .ref 0), (1, .int x1), (2, .int x2)], [.int (-12)], (0, 0), ks i a q r) (by rfl) ?_
          exact ft_ret mi_k128 (by rfl) (hP (-12) (oz1251 knm12))
      ·
        have c29 : (i 6912).toInt = (0 : Int32).toInt := kd_neF c; clear c
        first | refine ft_go mi_k128 1 25 [(3, .ref 108), (0, .ref 0), (1, .int x1), (2, .int x2)] [.int (-11)] i a q r (by rfl) ?_ | refine ko_steps mi_in128 1 _ (25, [(3, .ref 108), (0, .ref 0), (1, .int x1), (2, .int x2)], [.int (-11)], (0, 0), ks i a q r) (by rfl) ?_
        exact ft_ret mi_k128 (by rfl) (hP (-11) (oz1252 knm11))
    by_cases w30 : x1.toInt = 3
    ·
      refine ko_eq (x1 := (14, [(0, .ref 0), (1, .int x1), (2, .int x2)], [.int 3, .ref 97], (0, 0), ks i a q r)) (by rw [(kj_eq w30 (by decide) : x1 = 3)]) ?_
      first | refine ft_go mi_k128 4 20 [(3, .ref 110), (0, .ref 0), (1, .int x1), (2, .int x2)] [.int (i 7040)] i a q r (by rfl) ?_ | refine ko_steps mi_in128 4 _ (20, [(3, .ref 110), (0, .ref 0), (1, .int x1), (2, .int x2)], [.int (i 7040)], (0, 0), ks i a q r) (by rfl) ?_
      refine ft_if mi_k128 ((i 7040) != 0) 26 23 [(3, .ref 110), (0, .ref 0), (1, .int x1), (2, .int x2)] [] (by rfl) (fun c => ?_) (fun c => ?_)
      ·
        have c31 : (i 7040).toInt ≠ (0 : Int32).toInt := kd_ne c; clear c
        first | refine ft_go mi_k128 3 31 [(3, .ref 110), (0, .ref 0), (1, .int x1), (2, .int x2)] [.int 2, .int (i 7040)] i a q r (by rfl) ?_ | refine ko_steps mi_in128 3 _ (31, [(3, .ref 110), (0, .ref 0), (1, .int x1), (2, .int x2)], [.int 2, .int (i 7040)], (0, 0), ks i a q r) (by rfl) ?_
        refine ft_if mi_k128 ((i 7040) == 2) 37 34 [(3, .ref 110), (0, .ref 0), (1, .int x1), (2, .int x2)] [] (by rfl) (fun c => ?_) (fun c => ?_)
        ·
          have c32 : (i 7040).toInt = (2 : Int32).toInt := kd_eq c; clear c
          have fi_7043 : ((0 : Int) ≤ (i 7043).toInt) ∧ ((i 7043).toInt ≤ 60) := hG.I.1 7043
          have s33 : ((i 7043) - 1).toInt = (i 7043).toInt - (1 : Int32).toInt := kd_sub (oz47 fi_7043.1 kn1) (oz602 fi_7043.2 kn1)
          first | refine ft_go mi_k128 6 45 [(3, .ref 110), (0, .ref 0), (1, .int x1), (2, .int x2)] [.int ((i 7043) - 1), .int 0, .int x2] i a q r (by rfl) ?_ | refine ko_steps mi_in128 6 _ (45, [(3, .ref 110), (0, .ref 0), (1, .int x1), (2, .int x2)], [.int ((i 7043) - 1), .int 0, .int x2], (0, 0), ks i a q r) (by rfl) ?_
          refine ko_callPI mi_k128.1 (pc := 45) (ls := [(3, .ref 110), (0, .ref 0), (1, .int x1), (2, .int x2)]) (st := [.int ((i 7043) - 1), .int 0, .int x2]) (h := ks i a q r) (i := (.invokestatic 74, 3, 120, 0, 9, 0, 152)) (mi_k128.2 _ _ (by rfl)) (ft_invS mi_pq120 (by rfl)) (cy := mi_c120) mi_pq120 rfl (kc120 hG.I hG.R x2 0 ((i 7043) - 1)) (by decide) ?_
          intro vg34 hg34
          rcases hg34 with ⟨eg34, hg34⟩ | ⟨eg34, hg34⟩
          ·
            subst eg34
            have z35 : ((0 : Int32).toInt ≤ x2.toInt) ∧ (x2.toInt ≤ ((i 7043) - 1).toInt) := hg34
            first | refine ft_go mi_k128 3 57 [(3, .ref 110), (0, .ref 0), (1, .int x1), (2, .int x2)] [.int 0] i a q r (by rfl) ?_ | refine ko_steps mi_in128 3 _ (57, [(3, .ref 110), (0, .ref 0), (1, .int x1), (2, .int x2)], [.int 0], (0, 0), ks i a q r) (by rfl) ?_
            exact ft_ret mi_k128 (by rfl) (hP 0 (oz1255 fi_7043.2 s33 w30 z2.2 z35.1 z35.2 kn1 kn0))
          ·
            subst eg34
            first | refine ft_go mi_k128 2 57 [(3, .ref 110), (0, .ref 0), (1, .int x1), (2, .int x2)] [.int (-13)] i a q r (by rfl) ?_ | refine ko_steps mi_in128 2 _ (57, [(3, .ref 110), (0, .ref 0), (1, .int x1), (2, .int x2)], [.int (-13)], (0, 0), ks i a q r) (by rfl) ?_
            exact ft_ret mi_k128 (by rfl) (hP (-13) (oz1250 knm13))
        ·
          have c37 : (i 7040).toInt ≠ (2 : Int32).toInt := kd_eqF c; clear c
          first | refine ft_go mi_k128 1 36 [(3, .ref 110), (0, .ref 0), (1, .int x1), (2, .int x2)] [.int (-12)] i a q r (by rfl) ?_ | refine ko_steps mi_in128 1 _ (36, [(3, .ref 110), (0, .ref 0), (1, .int x1), (2, .int x2)], [.int (-12)], (0, 0), ks i a q r) (by rfl) ?_
          exact ft_ret mi_k128 (by rfl) (hP (-12) (oz1251 knm12))
      ·
        have c38 : (i 7040).toInt = (0 : Int32).toInt := kd_neF c; clear c
        first | refine ft_go mi_k128 1 25 [(3, .ref 110), (0, .ref 0), (1, .int x1), (2, .int x2)] [.int (-11)] i a q r (by rfl) ?_ | refine ko_steps mi_in128 1 _ (25, [(3, .ref 110), (0, .ref 0), (1, .int x1), (2, .int x2)], [.int (-11)], (0, 0), ks i a q r) (by rfl) ?_
        exact ft_ret mi_k128 (by rfl) (hP (-11) (oz1252 knm11))
    by_cases w39 : x1.toInt = 4
    ·
      refine ko_eq (x1 := (14, [(0, .ref 0), (1, .int x1), (2, .int x2)], [.int 4, .ref 97], (0, 0), ks i a q r)) (by rw [(kj_eq w39 (by decide) : x1 = 4)]) ?_
      first | refine ft_go mi_k128 4 20 [(3, .ref 112), (0, .ref 0), (1, .int x1), (2, .int x2)] [.int (i 7168)] i a q r (by rfl) ?_ | refine ko_steps mi_in128 4 _ (20, [(3, .ref 112), (0, .ref 0), (1, .int x1), (2, .int x2)], [.int (i 7168)], (0, 0), ks i a q r) (by rfl) ?_
      refine ft_if mi_k128 ((i 7168) != 0) 26 23 [(3, .ref 112), (0, .ref 0), (1, .int x1), (2, .int x2)] [] (by rfl) (fun c => ?_) (fun c => ?_)
      ·
        have c40 : (i 7168).toInt ≠ (0 : Int32).toInt := kd_ne c; clear c
        first | refine ft_go mi_k128 3 31 [(3, .ref 112), (0, .ref 0), (1, .int x1), (2, .int x2)] [.int 2, .int (i 7168)] i a q r (by rfl) ?_ | refine ko_steps mi_in128 3 _ (31, [(3, .ref 112), (0, .ref 0), (1, .int x1), (2, .int x2)], [.int 2, .int (i 7168)], (0, 0), ks i a q r) (by rfl) ?_
        refine ft_if mi_k128 ((i 7168) == 2) 37 34 [(3, .ref 112), (0, .ref 0), (1, .int x1), (2, .int x2)] [] (by rfl) (fun c => ?_) (fun c => ?_)
        ·
          have c41 : (i 7168).toInt = (2 : Int32).toInt := kd_eq c; clear c
          have fi_7171 : ((0 : Int) ≤ (i 7171).toInt) ∧ ((i 7171).toInt ≤ 60) := hG.I.1 7171
          have s42 : ((i 7171) - 1).toInt = (i 7171).toInt - (1 : Int32).toInt := kd_sub (oz47 fi_7171.1 kn1) (oz602 fi_7171.2 kn1)
          first | refine ft_go mi_k128 6 45 [(3, .ref 112), (0, .ref 0), (1, .int x1), (2, .int x2)] [.int ((i 7171) - 1), .int 0, .int x2] i a q r (by rfl) ?_ | refine ko_steps mi_in128 6 _ (45, [(3, .ref 112), (0, .ref 0), (1, .int x1), (2, .int x2)], [.int ((i 7171) - 1), .int 0, .int x2], (0, 0), ks i a q r) (by rfl) ?_
          refine ko_callPI mi_k128.1 (pc := 45) (ls := [(3, .ref 112), (0, .ref 0), (1, .int x1), (2, .int x2)]) (st := [.int ((i 7171) - 1), .int 0, .int x2]) (h := ks i a q r) (i := (.invokestatic 74, 3, 120, 0, 9, 0, 152)) (mi_k128.2 _ _ (by rfl)) (ft_invS mi_pq120 (by rfl)) (cy := mi_c120) mi_pq120 rfl (kc120 hG.I hG.R x2 0 ((i 7171) - 1)) (by decide) ?_
          intro vg43 hg43
          rcases hg43 with ⟨eg43, hg43⟩ | ⟨eg43, hg43⟩
          ·
            subst eg43
            have z44 : ((0 : Int32).toInt ≤ x2.toInt) ∧ (x2.toInt ≤ ((i 7171) - 1).toInt) := hg43
            first | refine ft_go mi_k128 3 57 [(3, .ref 112), (0, .ref 0), (1, .int x1), (2, .int x2)] [.int 0] i a q r (by rfl) ?_ | refine ko_steps mi_in128 3 _ (57, [(3, .ref 112), (0, .ref 0), (1, .int x1), (2, .int x2)], [.int 0], (0, 0), ks i a q r) (by rfl) ?_
            exact ft_ret mi_k128 (by rfl) (hP 0 (oz1256 fi_7171.2 s42 w39 z2.2 z44.1 z44.2 kn1 kn0))
          ·
            subst eg43
            first | refine ft_go mi_k128 2 57 [(3, .ref 112), (0, .ref 0), (1, .int x1), (2, .int x2)] [.int (-13)] i a q r (by rfl) ?_ | refine ko_steps mi_in128 2 _ (57, [(3, .ref 112), (0, .ref 0), (1, .int x1), (2, .int x2)], [.int (-13)], (0, 0), ks i a q r) (by rfl) ?_
            exact ft_ret mi_k128 (by rfl) (hP (-13) (oz1250 knm13))
        ·
          have c46 : (i 7168).toInt ≠ (2 : Int32).toInt := kd_eqF c; clear c
          first | refine ft_go mi_k128 1 36 [(3, .ref 112), (0, .ref 0), (1, .int x1), (2, .int x2)] [.int (-12)] i a q r (by rfl) ?_ | refine ko_steps mi_in128 1 _ (36, [(3, .ref 112), (0, .ref 0), (1, .int x1), (2, .int x2)], [.int (-12)], (0, 0), ks i a q r) (by rfl) ?_
          exact ft_ret mi_k128 (by rfl) (hP (-12) (oz1251 knm12))
      ·
        have c47 : (i 7168).toInt = (0 : Int32).toInt := kd_neF c; clear c
        first | refine ft_go mi_k128 1 25 [(3, .ref 112), (0, .ref 0), (1, .int x1), (2, .int x2)] [.int (-11)] i a q r (by rfl) ?_ | refine ko_steps mi_in128 1 _ (25, [(3, .ref 112), (0, .ref 0), (1, .int x1), (2, .int x2)], [.int (-11)], (0, 0), ks i a q r) (by rfl) ?_
        exact ft_ret mi_k128 (by rfl) (hP (-11) (oz1252 knm11))
    by_cases w48 : x1.toInt = 5
    ·
      refine ko_eq (x1 := (14, [(0, .ref 0), (1, .int x1), (2, .int x2)], [.int 5, .ref 97], (0, 0), ks i a q r)) (by rw [(kj_eq w48 (by decide) : x1 = 5)]) ?_
      first | refine ft_go mi_k128 4 20 [(3, .ref 114), (0, .ref 0), (1, .int x1), (2, .int x2)] [.int (i 7296)] i a q r (by rfl) ?_ | refine ko_steps mi_in128 4 _ (20, [(3, .ref 114), (0, .ref 0), (1, .int x1), (2, .int x2)], [.int (i 7296)], (0, 0), ks i a q r) (by rfl) ?_
      refine ft_if mi_k128 ((i 7296) != 0) 26 23 [(3, .ref 114), (0, .ref 0), (1, .int x1), (2, .int x2)] [] (by rfl) (fun c => ?_) (fun c => ?_)
      ·
        have c49 : (i 7296).toInt ≠ (0 : Int32).toInt := kd_ne c; clear c
        first | refine ft_go mi_k128 3 31 [(3, .ref 114), (0, .ref 0), (1, .int x1), (2, .int x2)] [.int 2, .int (i 7296)] i a q r (by rfl) ?_ | refine ko_steps mi_in128 3 _ (31, [(3, .ref 114), (0, .ref 0), (1, .int x1), (2, .int x2)], [.int 2, .int (i 7296)], (0, 0), ks i a q r) (by rfl) ?_
        refine ft_if mi_k128 ((i 7296) == 2) 37 34 [(3, .ref 114), (0, .ref 0), (1, .int x1), (2, .int x2)] [] (by rfl) (fun c => ?_) (fun c => ?_)
        ·
          have c50 : (i 7296).toInt = (2 : Int32).toInt := kd_eq c; clear c
          have fi_7299 : ((0 : Int) ≤ (i 7299).toInt) ∧ ((i 7299).toInt ≤ 60) := hG.I.1 7299
          have s51 : ((i 7299) - 1).toInt = (i 7299).toInt - (1 : Int32).toInt := kd_sub (oz47 fi_7299.1 kn1) (oz602 fi_7299.2 kn1)
          first | refine ft_go mi_k128 6 45 [(3, .ref 114), (0, .ref 0), (1, .int x1), (2, .int x2)] [.int ((i 7299) - 1), .int 0, .int x2] i a q r (by rfl) ?_ | refine ko_steps mi_in128 6 _ (45, [(3, .ref 114), (0, .ref 0), (1, .int x1), (2, .int x2)], [.int ((i 7299) - 1), .int 0, .int x2], (0, 0), ks i a q r) (by rfl) ?_
          refine ko_callPI mi_k128.1 (pc := 45) (ls := [(3, .ref 114), (0, .ref 0), (1, .int x1), (2, .int x2)]) (st := [.int ((i 7299) - 1), .int 0, .int x2]) (h := ks i a q r) (i := (.invokestatic 74, 3, 120, 0, 9, 0, 152)) (mi_k128.2 _ _ (by rfl)) (ft_invS mi_pq120 (by rfl)) (cy := mi_c120) mi_pq120 rfl (kc120 hG.I hG.R x2 0 ((i 7299) - 1)) (by decide) ?_
          intro vg52 hg52
          rcases hg52 with ⟨eg52, hg52⟩ | ⟨eg52, hg52⟩
          ·
            subst eg52
            have z53 : ((0 : Int32).toInt ≤ x2.toInt) ∧ (x2.toInt ≤ ((i 7299) - 1).toInt) := hg52
            first | refine ft_go mi_k128 3 57 [(3, .ref 114), (0, .ref 0), (1, .int x1), (2, .int x2)] [.int 0] i a q r (by rfl) ?_ | refine ko_steps mi_in128 3 _ (57, [(3, .ref 114), (0, .ref 0), (1, .int x1), (2, .int x2)], [.int 0], (0, 0), ks i a q r) (by rfl) ?_
            exact ft_ret mi_k128 (by rfl) (hP 0 (oz1257 fi_7299.2 s51 w48 z2.2 z53.1 z53.2 kn1 kn0))
          ·
            subst eg52
            first | refine ft_go mi_k128 2 57 [(3, .ref 114), (0, .ref 0), (1, .int x1), (2, .int x2)] [.int (-13)] i a q r (by rfl) ?_ | refine ko_steps mi_in128 2 _ (57, [(3, .ref 114), (0, .ref 0), (1, .int x1), (2, .int x2)], [.int (-13)], (0, 0), ks i a q r) (by rfl) ?_
            exact ft_ret mi_k128 (by rfl) (hP (-13) (oz1250 knm13))
        ·
          have c55 : (i 7296).toInt ≠ (2 : Int32).toInt := kd_eqF c; clear c
          first | refine ft_go mi_k128 1 36 [(3, .ref 114), (0, .ref 0), (1, .int x1), (2, .int x2)] [.int (-12)] i a q r (by rfl) ?_ | refine ko_steps mi_in128 1 _ (36, [(3, .ref 114), (0, .ref 0), (1, .int x1), (2, .int x2)], [.int (-12)], (0, 0), ks i a q r) (by rfl) ?_
          exact ft_ret mi_k128 (by rfl) (hP (-12) (oz1251 knm12))
      ·
        have c56 : (i 7296).toInt = (0 : Int32).toInt := kd_neF c; clear c
        first | refine ft_go mi_k128 1 25 [(3, .ref 114), (0, .ref 0), (1, .int x1), (2, .int x2)] [.int (-11)] i a q r (by rfl) ?_ | refine ko_steps mi_in128 1 _ (25, [(3, .ref 114), (0, .ref 0), (1, .int x1), (2, .int x2)], [.int (-11)], (0, 0), ks i a q r) (by rfl) ?_
        exact ft_ret mi_k128 (by rfl) (hP (-11) (oz1252 knm11))
    exact (oz1008 w12 w21 w3 w30 w39 w48 z2.1 z2.2).elim
  ·
    subst eg1
    first | refine ft_go mi_k128 2 8 [(0, .ref 0), (1, .int x1), (2, .int x2)] [.int (-1)] i a q r (by rfl) ?_ | refine ko_steps mi_in128 2 _ (8, [(0, .ref 0), (1, .int x1), (2, .int x2)], [.int (-1)], (0, 0), ks i a q r) (by rfl) ?_
    exact ft_ret mi_k128 (by rfl) (hP (-1) (oz1258 knm1))
set_option maxRecDepth 100000 in
theorem kc116_0 {i : Nat → Int32} {a : Nat → List Int32} {q : Nat → List Int64} {r : Nat → Nat} (hI : kI i a q) (hr : kr r) (x1 : Int32) (x2 : Int32) : km 7 116 [.ref 0, .int x1, .int x2] (ks i a q r) (kPL (ks i a q r) (fun v => True)) := by
  have hG := kG_self kW0 hI hr
  refine km_ofPL (q := (mi_h116, mi_c116)) rfl (by decide) (Nat.le_of_ble_eq_true rfl) ?_
  intro P hP
  first | refine ft_go mi_k116 3 3 [(0, .ref 0), (1, .int x1), (2, .int x2)] [.int x2, .int x1, .ref 0] i a q r (by rfl) ?_ | refine ko_steps mi_in116 3 _ (3, [(0, .ref 0), (1, .int x1), (2, .int x2)], [.int x2, .int x1, .ref 0], (0, 0), ks i a q r) (by rfl) ?_
  refine ko_callPI mi_k116.1 (pc := 3) (ls := [(0, .ref 0), (1, .int x1), (2, .int x2)]) (st := [.int x2, .int x1, .ref 0]) (h := ks i a q r) (i := (.invokevirtual 312, 3, 128, 0, 9, 0, 311)) (mi_k116.2 _ _ (by rfl)) (ft_invS mi_pq128 (by rfl)) (cy := mi_c128) mi_pq128 rfl (kc128_0 hG.I hG.R x1 x2) (by decide) ?_
  intro vg1 hg1
  have z2 : (vg1.toInt < 0) ∨ ((vg1.toInt = 0) ∧ ((0 : Int) ≤ x1.toInt) ∧ (x1.toInt ≤ 5) ∧ ((0 : Int) ≤ x2.toInt) ∧ (x2.toInt ≤ 59)) := hg1
  refine ft_if mi_k116 (decide (0 ≤ vg1)) 15 9 [(0, .ref 0), (1, .int x1), (2, .int x2)] [] (by rfl) (fun c => ?_) (fun c => ?_)
  ·
    have c3 : (0 : Int32).toInt ≤ vg1.toInt := kd_le c; clear c
    first | refine ft_go mi_k116 3 20 [(0, .ref 0), (1, .int x1), (2, .int x2)] [.int x1, .ref 97] i a q r (by rfl) ?_ | refine ko_steps mi_in116 3 _ (20, [(0, .ref 0), (1, .int x1), (2, .int x2)], [.int x1, .ref 97], (0, 0), ks i a q r) (by rfl) ?_
    by_cases w4 : x1.toInt = 0
    ·
      refine ft_alx mi_k116 (pc := 20) (v := 0) (p := 97) (z := 104) (kj_eq w4 (by decide) : x1 = 0) (by decide +kernel) (by decide +kernel) ?_
      first | refine ft_go mi_k116 2 25 [(0, .ref 0), (1, .int x1), (2, .int x2)] [.int x2, .ref 105] i a q r (by rfl) ?_ | refine ko_steps mi_in116 2 _ (25, [(0, .ref 0), (1, .int x1), (2, .int x2)], [.int x2, .ref 105], (0, 0), ks i a q r) (by rfl) ?_
      refine ko_lald2 mi_k116.1 (l := q 105) (n := 60) (c := 60) (ax := (0, 0, 0, 0, 0)) (mi_k116.2 _ _ (by rfl)) (by rfl) (by rfl) (hG.I.2.2.2 105) rfl (oz1261 c3 z2 kn0) (oz1262 c3 z2 kn0) ?_
      exact ft_ret mi_k116 (by rfl) (hP ((q 105).getD x2.toNatClampNeg 0) trivial)
    by_cases w5 : x1.toInt = 1
    ·
      refine ft_alx mi_k116 (pc := 20) (v := 1) (p := 97) (z := 106) (kj_eq w5 (by decide) : x1 = 1) (by decide +kernel) (by decide +kernel) ?_
      first | refine ft_go mi_k116 2 25 [(0, .ref 0), (1, .int x1), (2, .int x2)] [.int x2, .ref 107] i a q r (by rfl) ?_ | refine ko_steps mi_in116 2 _ (25, [(0, .ref 0), (1, .int x1), (2, .int x2)], [.int x2, .ref 107], (0, 0), ks i a q r) (by rfl) ?_
      refine ko_lald2 mi_k116.1 (l := q 107) (n := 60) (c := 60) (ax := (0, 0, 0, 0, 0)) (mi_k116.2 _ _ (by rfl)) (by rfl) (by rfl) (hG.I.2.2.2 107) rfl (oz1261 c3 z2 kn0) (oz1262 c3 z2 kn0) ?_
      exact ft_ret mi_k116 (by rfl) (hP ((q 107).getD x2.toNatClampNeg 0) trivial)
    by_cases w6 : x1.toInt = 2
    ·
      refine ft_alx mi_k116 (pc := 20) (v := 2) (p := 97) (z := 108) (kj_eq w6 (by decide) : x1 = 2) (by decide +kernel) (by decide +kernel) ?_
      first | refine ft_go mi_k116 2 25 [(0, .ref 0), (1, .int x1), (2, .int x2)] [.int x2, .ref 109] i a q r (by rfl) ?_ | refine ko_steps mi_in116 2 _ (25, [(0, .ref 0), (1, .int x1), (2, .int x2)], [.int x2, .ref 109], (0, 0), ks i a q r) (by rfl) ?_
      refine ko_lald2 mi_k116.1 (l := q 109) (n := 60) (c := 60) (ax := (0, 0, 0, 0, 0)) (mi_k116.2 _ _ (by rfl)) (by rfl) (by rfl) (hG.I.2.2.2 109) rfl (oz1261 c3 z2 kn0) (oz1262 c3 z2 kn0) ?_
      exact ft_ret mi_k116 (by rfl) (hP ((q 109).getD x2.toNatClampNeg 0) trivial)
    by_cases w7 : x1.toInt = 3
    ·
      refine ft_alx mi_k116 (pc := 20) (v := 3) (p := 97) (z := 110) (kj_eq w7 (by decide) : x1 = 3) (by decide +kernel) (by decide +kernel) ?_
      first | refine ft_go mi_k116 2 25 [(0, .ref 0), (1, .int x1), (2, .int x2)] [.int x2, .ref 111] i a q r (by rfl) ?_ | refine ko_steps mi_in116 2 _ (25, [(0, .ref 0), (1, .int x1), (2, .int x2)], [.int x2, .ref 111], (0, 0), ks i a q r) (by rfl) ?_
      refine ko_lald2 mi_k116.1 (l := q 111) (n := 60) (c := 60) (ax := (0, 0, 0, 0, 0)) (mi_k116.2 _ _ (by rfl)) (by rfl) (by rfl) (hG.I.2.2.2 111) rfl (oz1261 c3 z2 kn0) (oz1262 c3 z2 kn0) ?_
      exact ft_ret mi_k116 (by rfl) (hP ((q 111).getD x2.toNatClampNeg 0) trivial)
    by_cases w8 : x1.toInt = 4
    ·
      refine ft_alx mi_k116 (pc := 20) (v := 4) (p := 97) (z := 112) (kj_eq w8 (by decide) : x1 = 4) (by decide +kernel) (by decide +kernel) ?_
      first | refine ft_go mi_k116 2 25 [(0, .ref 0), (1, .int x1), (2, .int x2)] [.int x2, .ref 113] i a q r (by rfl) ?_ | refine ko_steps mi_in116 2 _ (25, [(0, .ref 0), (1, .int x1), (2, .int x2)], [.int x2, .ref 113], (0, 0), ks i a q r) (by rfl) ?_
      refine ko_lald2 mi_k116.1 (l := q 113) (n := 60) (c := 60) (ax := (0, 0, 0, 0, 0)) (mi_k116.2 _ _ (by rfl)) (by rfl) (by rfl) (hG.I.2.2.2 113) rfl (oz1261 c3 z2 kn0) (oz1262 c3 z2 kn0) ?_
      exact ft_ret mi_k116 (by rfl) (hP ((q 113).getD x2.toNatClampNeg 0) trivial)
    by_cases w9 : x1.toInt = 5
    ·
      refine ft_alx mi_k116 (pc := 20) (v := 5) (p := 97) (z := 114) (kj_eq w9 (by decide) : x1 = 5) (by decide +kernel) (by decide +kernel) ?_
      first | refine ft_go mi_k116 2 25 [(0, .ref 0), (1, .int x1), (2, .int x2)] [.int x2, .ref 115] i a q r (by rfl) ?_ | refine ko_steps mi_in116 2 _ (25, [(0, .ref 0), (1, .int x1), (2, .int x2)], [.int x2, .ref 115], (0, 0), ks i a q r) (by rfl) ?_
      refine ko_lald2 mi_k116.1 (l := q 115) (n := 60) (c := 60) (ax := (0, 0, 0, 0, 0)) (mi_k116.2 _ _ (by rfl)) (by rfl) (by rfl) (hG.I.2.2.2 115) rfl (oz1261 c3 z2 kn0) (oz1262 c3 z2 kn0) ?_
      exact ft_ret mi_k116 (by rfl) (hP ((q 115).getD x2.toNatClampNeg 0) trivial)
    exact (oz1270 c3 w4 w5 w6 w7 w8 w9 z2 kn0).elim
  ·
    have c10 : vg1.toInt < (0 : Int32).toInt := kd_leF c; clear c
    first | refine ft_go mi_k116 2 26 [(0, .ref 0), (1, .int x1), (2, .int x2)] [.long (-9223372036854775808)] i a q r (by rfl) ?_ | refine ko_steps mi_in116 2 _ (26, [(0, .ref 0), (1, .int x1), (2, .int x2)], [.long (-9223372036854775808)], (0, 0), ks i a q r) (by rfl) ?_
    exact ft_ret mi_k116 (by rfl) (hP (-9223372036854775808) trivial)
set_option maxRecDepth 100000 in
theorem kc37_104 {i : Nat → Int32} {a : Nat → List Int32} {q : Nat → List Int64} {r : Nat → Nat} (hI : kI i a q) (hr : kr r) (x1 : Int32) (x2 : Int32) : km 1 37 [.ref 104, .int x1, .int x2] (ks i a q r) (kPI (ks i a q r) (fun v => (v = 1 ∧ (((0 : Int) ≤ x2.toInt) ∧ (x2.toInt ≤ (i 6659).toInt) ∧ ((0 : Int) ≤ x1.toInt) ∧ ((x1.toInt + x2.toInt) ≤ (i 6659).toInt))) ∨ (v = 0 ∧ (¬ (((0 : Int) ≤ x2.toInt) ∧ (x2.toInt ≤ (i 6659).toInt) ∧ ((0 : Int) ≤ x1.toInt) ∧ ((x1.toInt + x2.toInt) ≤ (i 6659).toInt)))))) := by
  have hG := kG_self kW0 hI hr
  refine km_ofPI (q := (mi_h37, mi_c37)) rfl (by decide) (Nat.le_of_ble_eq_true rfl) ?_
  intro P hP
  refine ft_go mi_k37 1 1 [(0, .ref 104), (1, .int x1), (2, .int x2)] [.int x2] i a q r (by rfl) ?_
  refine ft_if mi_k37 (decide (x2 < 0)) 30 4 [(0, .ref 104), (1, .int x1), (2, .int x2)] [] (by rfl) (fun c => ?_) (fun c => ?_)
  ·
    have c1 : x2.toInt < (0 : Int32).toInt := kd_lt c; clear c
    refine ft_go mi_k37 1 31 [(0, .ref 104), (1, .int x1), (2, .int x2)] [.int 0] i a q r (by rfl) ?_
    exact ft_ret mi_k37 (by rfl) (hP 0 (Or.inr ⟨rfl, (oz1272 c1 kn0)⟩))
  ·
    have c2 : (0 : Int32).toInt ≤ x2.toInt := kd_ltF c; clear c
    have fi_6659 : ((0 : Int) ≤ (i 6659).toInt) ∧ ((i 6659).toInt ≤ 60) := hG.I.1 6659
    refine ft_go mi_k37 3 9 [(0, .ref 104), (1, .int x1), (2, .int x2)] [.int (i 6659), .int x2] i a q r (by rfl) ?_
    refine ft_if mi_k37 (decide ((i 6659) < x2)) 30 12 [(0, .ref 104), (1, .int x1), (2, .int x2)] [] (by rfl) (fun c => ?_) (fun c => ?_)
    ·
      have c3 : (i 6659).toInt < x2.toInt := kd_lt c; clear c
      refine ft_go mi_k37 1 31 [(0, .ref 104), (1, .int x1), (2, .int x2)] [.int 0] i a q r (by rfl) ?_
      exact ft_ret mi_k37 (by rfl) (hP 0 (Or.inr ⟨rfl, (oz1273 c3)⟩))
    ·
      have c4 : x2.toInt ≤ (i 6659).toInt := kd_ltF c; clear c
      refine ft_go mi_k37 1 13 [(0, .ref 104), (1, .int x1), (2, .int x2)] [.int x1] i a q r (by rfl) ?_
      refine ft_if mi_k37 (decide (x1 < 0)) 30 16 [(0, .ref 104), (1, .int x1), (2, .int x2)] [] (by rfl) (fun c => ?_) (fun c => ?_)
      ·
        have c5 : x1.toInt < (0 : Int32).toInt := kd_lt c; clear c
        refine ft_go mi_k37 1 31 [(0, .ref 104), (1, .int x1), (2, .int x2)] [.int 0] i a q r (by rfl) ?_
        exact ft_ret mi_k37 (by rfl) (hP 0 (Or.inr ⟨rfl, (oz1274 c5 kn0)⟩))
      ·
        have c6 : (0 : Int32).toInt ≤ x1.toInt := kd_ltF c; clear c
        have s7 : ((i 6659) - x2).toInt = (i 6659).toInt - x2.toInt := kd_sub (oz551 c4) (oz1275 c2 fi_6659.2 kn0)
        refine ft_go mi_k37 5 23 [(0, .ref 104), (1, .int x1), (2, .int x2)] [.int ((i 6659) - x2), .int x1] i a q r (by rfl) ?_
        refine ft_if mi_k37 (decide (((i 6659) - x2) < x1)) 30 26 [(0, .ref 104), (1, .int x1), (2, .int x2)] [] (by rfl) (fun c => ?_) (fun c => ?_)
        ·
          have c8 : ((i 6659) - x2).toInt < x1.toInt := kd_lt c; clear c
          refine ft_go mi_k37 1 31 [(0, .ref 104), (1, .int x1), (2, .int x2)] [.int 0] i a q r (by rfl) ?_
          exact ft_ret mi_k37 (by rfl) (hP 0 (Or.inr ⟨rfl, (oz1276 c8 s7)⟩))
        ·
          have c9 : x1.toInt ≤ ((i 6659) - x2).toInt := kd_ltF c; clear c
          refine ft_go mi_k37 2 31 [(0, .ref 104), (1, .int x1), (2, .int x2)] [.int 1] i a q r (by rfl) ?_
          exact ft_ret mi_k37 (by rfl) (hP 1 (Or.inl ⟨rfl, (oz1277 c2 c4 c6 c9 s7 kn0)⟩))
set_option maxRecDepth 100000 in
theorem kc37_106 {i : Nat → Int32} {a : Nat → List Int32} {q : Nat → List Int64} {r : Nat → Nat} (hI : kI i a q) (hr : kr r) (x1 : Int32) (x2 : Int32) : km 1 37 [.ref 106, .int x1, .int x2] (ks i a q r) (kPI (ks i a q r) (fun v => (v = 1 ∧ (((0 : Int) ≤ x2.toInt) ∧ (x2.toInt ≤ (i 6787).toInt) ∧ ((0 : Int) ≤ x1.toInt) ∧ ((x1.toInt + x2.toInt) ≤ (i 6787).toInt))) ∨ (v = 0 ∧ (¬ (((0 : Int) ≤ x2.toInt) ∧ (x2.toInt ≤ (i 6787).toInt) ∧ ((0 : Int) ≤ x1.toInt) ∧ ((x1.toInt + x2.toInt) ≤ (i 6787).toInt)))))) := by
  have hG := kG_self kW0 hI hr
  refine km_ofPI (q := (mi_h37, mi_c37)) rfl (by decide) (Nat.le_of_ble_eq_true rfl) ?_
  intro P hP
  refine ft_go mi_k37 1 1 [(0, .ref 106), (1, .int x1), (2, .int x2)] [.int x2] i a q r (by rfl) ?_
  refine ft_if mi_k37 (decide (x2 < 0)) 30 4 [(0, .ref 106), (1, .int x1), (2, .int x2)] [] (by rfl) (fun c => ?_) (fun c => ?_)
  ·
    have c1 : x2.toInt < (0 : Int32).toInt := kd_lt c; clear c
    refine ft_go mi_k37 1 31 [(0, .ref 106), (1, .int x1), (2, .int x2)] [.int 0] i a q r (by rfl) ?_
    exact ft_ret mi_k37 (by rfl) (hP 0 (Or.inr ⟨rfl, (oz1272 c1 kn0)⟩))
  ·
    have c2 : (0 : Int32).toInt ≤ x2.toInt := kd_ltF c; clear c
    have fi_6787 : ((0 : Int) ≤ (i 6787).toInt) ∧ ((i 6787).toInt ≤ 60) := hG.I.1 6787
    refine ft_go mi_k37 3 9 [(0, .ref 106), (1, .int x1), (2, .int x2)] [.int (i 6787), .int x2] i a q r (by rfl) ?_
    refine ft_if mi_k37 (decide ((i 6787) < x2)) 30 12 [(0, .ref 106), (1, .int x1), (2, .int x2)] [] (by rfl) (fun c => ?_) (fun c => ?_)
    ·
      have c3 : (i 6787).toInt < x2.toInt := kd_lt c; clear c
      refine ft_go mi_k37 1 31 [(0, .ref 106), (1, .int x1), (2, .int x2)] [.int 0] i a q r (by rfl) ?_
      exact ft_ret mi_k37 (by rfl) (hP 0 (Or.inr ⟨rfl, (oz1273 c3)⟩))
    ·
      have c4 : x2.toInt ≤ (i 6787).toInt := kd_ltF c; clear c
      refine ft_go mi_k37 1 13 [(0, .ref 106), (1, .int x1), (2, .int x2)] [.int x1] i a q r (by rfl) ?_
      refine ft_if mi_k37 (decide (x1 < 0)) 30 16 [(0, .ref 106), (1, .int x1), (2, .int x2)] [] (by rfl) (fun c => ?_) (fun c => ?_)
      ·
        have c5 : x1.toInt < (0 : Int32).toInt := kd_lt c; clear c
        refine ft_go mi_k37 1 31 [(0, .ref 106), (1, .int x1), (2, .int x2)] [.int 0] i a q r (by rfl) ?_
        exact ft_ret mi_k37 (by rfl) (hP 0 (Or.inr ⟨rfl, (oz1274 c5 kn0)⟩))
      ·
        have c6 : (0 : Int32).toInt ≤ x1.toInt := kd_ltF c; clear c
        have s7 : ((i 6787) - x2).toInt = (i 6787).toInt - x2.toInt := kd_sub (oz551 c4) (oz1275 c2 fi_6787.2 kn0)
        refine ft_go mi_k37 5 23 [(0, .ref 106), (1, .int x1), (2, .int x2)] [.int ((i 6787) - x2), .int x1] i a q r (by rfl) ?_
        refine ft_if mi_k37 (decide (((i 6787) - x2) < x1)) 30 26 [(0, .ref 106), (1, .int x1), (2, .int x2)] [] (by rfl) (fun c => ?_) (fun c => ?_)
        ·
          have c8 : ((i 6787) - x2).toInt < x1.toInt := kd_lt c; clear c
          refine ft_go mi_k37 1 31 [(0, .ref 106), (1, .int x1), (2, .int x2)] [.int 0] i a q r (by rfl) ?_
          exact ft_ret mi_k37 (by rfl) (hP 0 (Or.inr ⟨rfl, (oz1276 c8 s7)⟩))
        ·
          have c9 : x1.toInt ≤ ((i 6787) - x2).toInt := kd_ltF c; clear c
          refine ft_go mi_k37 2 31 [(0, .ref 106), (1, .int x1), (2, .int x2)] [.int 1] i a q r (by rfl) ?_
          exact ft_ret mi_k37 (by rfl) (hP 1 (Or.inl ⟨rfl, (oz1277 c2 c4 c6 c9 s7 kn0)⟩))
set_option maxRecDepth 100000 in
theorem kc37_108 {i : Nat → Int32} {a : Nat → List Int32} {q : Nat → List Int64} {r : Nat → Nat} (hI : kI i a q) (hr : kr r) (x1 : Int32) (x2 : Int32) : km 1 37 [.ref 108, .int x1, .int x2] (ks i a q r) (kPI (ks i a q r) (fun v => (v = 1 ∧ (((0 : Int) ≤ x2.toInt) ∧ (x2.toInt ≤ (i 6915).toInt) ∧ ((0 : Int) ≤ x1.toInt) ∧ ((x1.toInt + x2.toInt) ≤ (i 6915).toInt))) ∨ (v = 0 ∧ (¬ (((0 : Int) ≤ x2.toInt) ∧ (x2.toInt ≤ (i 6915).toInt) ∧ ((0 : Int) ≤ x1.toInt) ∧ ((x1.toInt + x2.toInt) ≤ (i 6915).toInt)))))) := by
  have hG := kG_self kW0 hI hr
  refine km_ofPI (q := (mi_h37, mi_c37)) rfl (by decide) (Nat.le_of_ble_eq_true rfl) ?_
  intro P hP
  refine ft_go mi_k37 1 1 [(0, .ref 108), (1, .int x1), (2, .int x2)] [.int x2] i a q r (by rfl) ?_
  refine ft_if mi_k37 (decide (x2 < 0)) 30 4 [(0, .ref 108), (1, .int x1), (2, .int x2)] [] (by rfl) (fun c => ?_) (fun c => ?_)
  ·
    have c1 : x2.toInt < (0 : Int32).toInt := kd_lt c; clear c
    refine ft_go mi_k37 1 31 [(0, .ref 108), (1, .int x1), (2, .int x2)] [.int 0] i a q r (by rfl) ?_
    exact ft_ret mi_k37 (by rfl) (hP 0 (Or.inr ⟨rfl, (oz1272 c1 kn0)⟩))
  ·
    have c2 : (0 : Int32).toInt ≤ x2.toInt := kd_ltF c; clear c
    have fi_6915 : ((0 : Int) ≤ (i 6915).toInt) ∧ ((i 6915).toInt ≤ 60) := hG.I.1 6915
    refine ft_go mi_k37 3 9 [(0, .ref 108), (1, .int x1), (2, .int x2)] [.int (i 6915), .int x2] i a q r (by rfl) ?_
    refine ft_if mi_k37 (decide ((i 6915) < x2)) 30 12 [(0, .ref 108), (1, .int x1), (2, .int x2)] [] (by rfl) (fun c => ?_) (fun c => ?_)
    ·
      have c3 : (i 6915).toInt < x2.toInt := kd_lt c; clear c
      refine ft_go mi_k37 1 31 [(0, .ref 108), (1, .int x1), (2, .int x2)] [.int 0] i a q r (by rfl) ?_
      exact ft_ret mi_k37 (by rfl) (hP 0 (Or.inr ⟨rfl, (oz1273 c3)⟩))
    ·
      have c4 : x2.toInt ≤ (i 6915).toInt := kd_ltF c; clear c
      refine ft_go mi_k37 1 13 [(0, .ref 108), (1, .int x1), (2, .int x2)] [.int x1] i a q r (by rfl) ?_
      refine ft_if mi_k37 (decide (x1 < 0)) 30 16 [(0, .ref 108), (1, .int x1), (2, .int x2)] [] (by rfl) (fun c => ?_) (fun c => ?_)
      ·
        have c5 : x1.toInt < (0 : Int32).toInt := kd_lt c; clear c
        refine ft_go mi_k37 1 31 [(0, .ref 108), (1, .int x1), (2, .int x2)] [.int 0] i a q r (by rfl) ?_
        exact ft_ret mi_k37 (by rfl) (hP 0 (Or.inr ⟨rfl, (oz1274 c5 kn0)⟩))
      ·
        have c6 : (0 : Int32).toInt ≤ x1.toInt := kd_ltF c; clear c
        have s7 : ((i 6915) - x2).toInt = (i 6915).toInt - x2.toInt := kd_sub (oz551 c4) (oz1275 c2 fi_6915.2 kn0)
        refine ft_go mi_k37 5 23 [(0, .ref 108), (1, .int x1), (2, .int x2)] [.int ((i 6915) - x2), .int x1] i a q r (by rfl) ?_
        refine ft_if mi_k37 (decide (((i 6915) - x2) < x1)) 30 26 [(0, .ref 108), (1, .int x1), (2, .int x2)] [] (by rfl) (fun c => ?_) (fun c => ?_)
        ·
          have c8 : ((i 6915) - x2).toInt < x1.toInt := kd_lt c; clear c
          refine ft_go mi_k37 1 31 [(0, .ref 108), (1, .int x1), (2, .int x2)] [.int 0] i a q r (by rfl) ?_
          exact ft_ret mi_k37 (by rfl) (hP 0 (Or.inr ⟨rfl, (oz1276 c8 s7)⟩))
        ·
          have c9 : x1.toInt ≤ ((i 6915) - x2).toInt := kd_ltF c; clear c
          refine ft_go mi_k37 2 31 [(0, .ref 108), (1, .int x1), (2, .int x2)] [.int 1] i a q r (by rfl) ?_
          exact ft_ret mi_k37 (by rfl) (hP 1 (Or.inl ⟨rfl, (oz1277 c2 c4 c6 c9 s7 kn0)⟩))
set_option maxRecDepth 100000 in
theorem kc37_110 {i : Nat → Int32} {a : Nat → List Int32} {q : Nat → List Int64} {r : Nat → Nat} (hI : kI i a q) (hr : kr r) (x1 : Int32) (x2 : Int32) : km 1 37 [.ref 110, .int x1, .int x2] (ks i a q r) (kPI (ks i a q r) (fun v => (v = 1 ∧ (((0 : Int) ≤ x2.toInt) ∧ (x2.toInt ≤ (i 7043).toInt) ∧ ((0 : Int) ≤ x1.toInt) ∧ ((x1.toInt + x2.toInt) ≤ (i 7043).toInt))) ∨ (v = 0 ∧ (¬ (((0 : Int) ≤ x2.toInt) ∧ (x2.toInt ≤ (i 7043).toInt) ∧ ((0 : Int) ≤ x1.toInt) ∧ ((x1.toInt + x2.toInt) ≤ (i 7043).toInt)))))) := by
  have hG := kG_self kW0 hI hr
  refine km_ofPI (q := (mi_h37, mi_c37)) rfl (by decide) (Nat.le_of_ble_eq_true rfl) ?_
  intro P hP
  refine ft_go mi_k37 1 1 [(0, .ref 110), (1, .int x1), (2, .int x2)] [.int x2] i a q r (by rfl) ?_
  refine ft_if mi_k37 (decide (x2 < 0)) 30 4 [(0, .ref 110), (1, .int x1), (2, .int x2)] [] (by rfl) (fun c => ?_) (fun c => ?_)
  ·
    have c1 : x2.toInt < (0 : Int32).toInt := kd_lt c; clear c
    refine ft_go mi_k37 1 31 [(0, .ref 110), (1, .int x1), (2, .int x2)] [.int 0] i a q r (by rfl) ?_
    exact ft_ret mi_k37 (by rfl) (hP 0 (Or.inr ⟨rfl, (oz1272 c1 kn0)⟩))
  ·
    have c2 : (0 : Int32).toInt ≤ x2.toInt := kd_ltF c; clear c
    have fi_7043 : ((0 : Int) ≤ (i 7043).toInt) ∧ ((i 7043).toInt ≤ 60) := hG.I.1 7043
    refine ft_go mi_k37 3 9 [(0, .ref 110), (1, .int x1), (2, .int x2)] [.int (i 7043), .int x2] i a q r (by rfl) ?_
    refine ft_if mi_k37 (decide ((i 7043) < x2)) 30 12 [(0, .ref 110), (1, .int x1), (2, .int x2)] [] (by rfl) (fun c => ?_) (fun c => ?_)
    ·
      have c3 : (i 7043).toInt < x2.toInt := kd_lt c; clear c
      refine ft_go mi_k37 1 31 [(0, .ref 110), (1, .int x1), (2, .int x2)] [.int 0] i a q r (by rfl) ?_
      exact ft_ret mi_k37 (by rfl) (hP 0 (Or.inr ⟨rfl, (oz1273 c3)⟩))
    ·
      have c4 : x2.toInt ≤ (i 7043).toInt := kd_ltF c; clear c
      refine ft_go mi_k37 1 13 [(0, .ref 110), (1, .int x1), (2, .int x2)] [.int x1] i a q r (by rfl) ?_
      refine ft_if mi_k37 (decide (x1 < 0)) 30 16 [(0, .ref 110), (1, .int x1), (2, .int x2)] [] (by rfl) (fun c => ?_) (fun c => ?_)
      ·
        have c5 : x1.toInt < (0 : Int32).toInt := kd_lt c; clear c
        refine ft_go mi_k37 1 31 [(0, .ref 110), (1, .int x1), (2, .int x2)] [.int 0] i a q r (by rfl) ?_
        exact ft_ret mi_k37 (by rfl) (hP 0 (Or.inr ⟨rfl, (oz1274 c5 kn0)⟩))
      ·
        have c6 : (0 : Int32).toInt ≤ x1.toInt := kd_ltF c; clear c
        have s7 : ((i 7043) - x2).toInt = (i 7043).toInt - x2.toInt := kd_sub (oz551 c4) (oz1275 c2 fi_7043.2 kn0)
        refine ft_go mi_k37 5 23 [(0, .ref 110), (1, .int x1), (2, .int x2)] [.int ((i 7043) - x2), .int x1] i a q r (by rfl) ?_
        refine ft_if mi_k37 (decide (((i 7043) - x2) < x1)) 30 26 [(0, .ref 110), (1, .int x1), (2, .int x2)] [] (by rfl) (fun c => ?_) (fun c => ?_)
        ·
          have c8 : ((i 7043) - x2).toInt < x1.toInt := kd_lt c; clear c
          refine ft_go mi_k37 1 31 [(0, .ref 110), (1, .int x1), (2, .int x2)] [.int 0] i a q r (by rfl) ?_
          exact ft_ret mi_k37 (by rfl) (hP 0 (Or.inr ⟨rfl, (oz1276 c8 s7)⟩))
        ·
          have c9 : x1.toInt ≤ ((i 7043) - x2).toInt := kd_ltF c; clear c
          refine ft_go mi_k37 2 31 [(0, .ref 110), (1, .int x1), (2, .int x2)] [.int 1] i a q r (by rfl) ?_
          exact ft_ret mi_k37 (by rfl) (hP 1 (Or.inl ⟨rfl, (oz1277 c2 c4 c6 c9 s7 kn0)⟩))
set_option maxRecDepth 100000 in
theorem kc37_112 {i : Nat → Int32} {a : Nat → List Int32} {q : Nat → List Int64} {r : Nat → Nat} (hI : kI i a q) (hr : kr r) (x1 : Int32) (x2 : Int32) : km 1 37 [.ref 112, .int x1, .int x2] (ks i a q r) (kPI (ks i a q r) (fun v => (v = 1 ∧ (((0 : Int) ≤ x2.toInt) ∧ (x2.toInt ≤ (i 7171).toInt) ∧ ((0 : Int) ≤ x1.toInt) ∧ ((x1.toInt + x2.toInt) ≤ (i 7171).toInt))) ∨ (v = 0 ∧ (¬ (((0 : Int) ≤ x2.toInt) ∧ (x2.toInt ≤ (i 7171).toInt) ∧ ((0 : Int) ≤ x1.toInt) ∧ ((x1.toInt + x2.toInt) ≤ (i 7171).toInt)))))) := by
  have hG := kG_self kW0 hI hr
  refine km_ofPI (q := (mi_h37, mi_c37)) rfl (by decide) (Nat.le_of_ble_eq_true rfl) ?_
  intro P hP
  refine ft_go mi_k37 1 1 [(0, .ref 112), (1, .int x1), (2, .int x2)] [.int x2] i a q r (by rfl) ?_
  refine ft_if mi_k37 (decide (x2 < 0)) 30 4 [(0, .ref 112), (1, .int x1), (2, .int x2)] [] (by rfl) (fun c => ?_) (fun c => ?_)
  ·
    have c1 : x2.toInt < (0 : Int32).toInt := kd_lt c; clear c
    refine ft_go mi_k37 1 31 [(0, .ref 112), (1, .int x1), (2, .int x2)] [.int 0] i a q r (by rfl) ?_
    exact ft_ret mi_k37 (by rfl) (hP 0 (Or.inr ⟨rfl, (oz1272 c1 kn0)⟩))
  ·
    have c2 : (0 : Int32).toInt ≤ x2.toInt := kd_ltF c; clear c
    have fi_7171 : ((0 : Int) ≤ (i 7171).toInt) ∧ ((i 7171).toInt ≤ 60) := hG.I.1 7171
    refine ft_go mi_k37 3 9 [(0, .ref 112), (1, .int x1), (2, .int x2)] [.int (i 7171), .int x2] i a q r (by rfl) ?_
    refine ft_if mi_k37 (decide ((i 7171) < x2)) 30 12 [(0, .ref 112), (1, .int x1), (2, .int x2)] [] (by rfl) (fun c => ?_) (fun c => ?_)
    ·
      have c3 : (i 7171).toInt < x2.toInt := kd_lt c; clear c
      refine ft_go mi_k37 1 31 [(0, .ref 112), (1, .int x1), (2, .int x2)] [.int 0] i a q r (by rfl) ?_
      exact ft_ret mi_k37 (by rfl) (hP 0 (Or.inr ⟨rfl, (oz1273 c3)⟩))
    ·
      have c4 : x2.toInt ≤ (i 7171).toInt := kd_ltF c; clear c
      refine ft_go mi_k37 1 13 [(0, .ref 112), (1, .int x1), (2, .int x2)] [.int x1] i a q r (by rfl) ?_
      refine ft_if mi_k37 (decide (x1 < 0)) 30 16 [(0, .ref 112), (1, .int x1), (2, .int x2)] [] (by rfl) (fun c => ?_) (fun c => ?_)
      ·
        have c5 : x1.toInt < (0 : Int32).toInt := kd_lt c; clear c
        refine ft_go mi_k37 1 31 [(0, .ref 112), (1, .int x1), (2, .int x2)] [.int 0] i a q r (by rfl) ?_
        exact ft_ret mi_k37 (by rfl) (hP 0 (Or.inr ⟨rfl, (oz1274 c5 kn0)⟩))
      ·
        have c6 : (0 : Int32).toInt ≤ x1.toInt := kd_ltF c; clear c
        have s7 : ((i 7171) - x2).toInt = (i 7171).toInt - x2.toInt := kd_sub (oz551 c4) (oz1275 c2 fi_7171.2 kn0)
        refine ft_go mi_k37 5 23 [(0, .ref 112), (1, .int x1), (2, .int x2)] [.int ((i 7171) - x2), .int x1] i a q r (by rfl) ?_
        refine ft_if mi_k37 (decide (((i 7171) - x2) < x1)) 30 26 [(0, .ref 112), (1, .int x1), (2, .int x2)] [] (by rfl) (fun c => ?_) (fun c => ?_)
        ·
          have c8 : ((i 7171) - x2).toInt < x1.toInt := kd_lt c; clear c
          refine ft_go mi_k37 1 31 [(0, .ref 112), (1, .int x1), (2, .int x2)] [.int 0] i a q r (by rfl) ?_
          exact ft_ret mi_k37 (by rfl) (hP 0 (Or.inr ⟨rfl, (oz1276 c8 s7)⟩))
        ·
          have c9 : x1.toInt ≤ ((i 7171) - x2).toInt := kd_ltF c; clear c
          refine ft_go mi_k37 2 31 [(0, .ref 112), (1, .int x1), (2, .int x2)] [.int 1] i a q r (by rfl) ?_
          exact ft_ret mi_k37 (by rfl) (hP 1 (Or.inl ⟨rfl, (oz1277 c2 c4 c6 c9 s7 kn0)⟩))
set_option maxRecDepth 100000 in
theorem kc37_114 {i : Nat → Int32} {a : Nat → List Int32} {q : Nat → List Int64} {r : Nat → Nat} (hI : kI i a q) (hr : kr r) (x1 : Int32) (x2 : Int32) : km 1 37 [.ref 114, .int x1, .int x2] (ks i a q r) (kPI (ks i a q r) (fun v => (v = 1 ∧ (((0 : Int) ≤ x2.toInt) ∧ (x2.toInt ≤ (i 7299).toInt) ∧ ((0 : Int) ≤ x1.toInt) ∧ ((x1.toInt + x2.toInt) ≤ (i 7299).toInt))) ∨ (v = 0 ∧ (¬ (((0 : Int) ≤ x2.toInt) ∧ (x2.toInt ≤ (i 7299).toInt) ∧ ((0 : Int) ≤ x1.toInt) ∧ ((x1.toInt + x2.toInt) ≤ (i 7299).toInt)))))) := by
  have hG := kG_self kW0 hI hr
  refine km_ofPI (q := (mi_h37, mi_c37)) rfl (by decide) (Nat.le_of_ble_eq_true rfl) ?_
  intro P hP
  refine ft_go mi_k37 1 1 [(0, .ref 114), (1, .int x1), (2, .int x2)] [.int x2] i a q r (by rfl) ?_
  refine ft_if mi_k37 (decide (x2 < 0)) 30 4 [(0, .ref 114), (1, .int x1), (2, .int x2)] [] (by rfl) (fun c => ?_) (fun c => ?_)
  ·
    have c1 : x2.toInt < (0 : Int32).toInt := kd_lt c; clear c
    refine ft_go mi_k37 1 31 [(0, .ref 114), (1, .int x1), (2, .int x2)] [.int 0] i a q r (by rfl) ?_
    exact ft_ret mi_k37 (by rfl) (hP 0 (Or.inr ⟨rfl, (oz1272 c1 kn0)⟩))
  ·
    have c2 : (0 : Int32).toInt ≤ x2.toInt := kd_ltF c; clear c
    have fi_7299 : ((0 : Int) ≤ (i 7299).toInt) ∧ ((i 7299).toInt ≤ 60) := hG.I.1 7299
    refine ft_go mi_k37 3 9 [(0, .ref 114), (1, .int x1), (2, .int x2)] [.int (i 7299), .int x2] i a q r (by rfl) ?_
    refine ft_if mi_k37 (decide ((i 7299) < x2)) 30 12 [(0, .ref 114), (1, .int x1), (2, .int x2)] [] (by rfl) (fun c => ?_) (fun c => ?_)
    ·
      have c3 : (i 7299).toInt < x2.toInt := kd_lt c; clear c
      refine ft_go mi_k37 1 31 [(0, .ref 114), (1, .int x1), (2, .int x2)] [.int 0] i a q r (by rfl) ?_
      exact ft_ret mi_k37 (by rfl) (hP 0 (Or.inr ⟨rfl, (oz1273 c3)⟩))
    ·
      have c4 : x2.toInt ≤ (i 7299).toInt := kd_ltF c; clear c
      refine ft_go mi_k37 1 13 [(0, .ref 114), (1, .int x1), (2, .int x2)] [.int x1] i a q r (by rfl) ?_
      refine ft_if mi_k37 (decide (x1 < 0)) 30 16 [(0, .ref 114), (1, .int x1), (2, .int x2)] [] (by rfl) (fun c => ?_) (fun c => ?_)
      ·
        have c5 : x1.toInt < (0 : Int32).toInt := kd_lt c; clear c
        refine ft_go mi_k37 1 31 [(0, .ref 114), (1, .int x1), (2, .int x2)] [.int 0] i a q r (by rfl) ?_
        exact ft_ret mi_k37 (by rfl) (hP 0 (Or.inr ⟨rfl, (oz1274 c5 kn0)⟩))
      ·
        have c6 : (0 : Int32).toInt ≤ x1.toInt := kd_ltF c; clear c
        have s7 : ((i 7299) - x2).toInt = (i 7299).toInt - x2.toInt := kd_sub (oz551 c4) (oz1275 c2 fi_7299.2 kn0)
        refine ft_go mi_k37 5 23 [(0, .ref 114), (1, .int x1), (2, .int x2)] [.int ((i 7299) - x2), .int x1] i a q r (by rfl) ?_
        refine ft_if mi_k37 (decide (((i 7299) - x2) < x1)) 30 26 [(0, .ref 114), (1, .int x1), (2, .int x2)] [] (by rfl) (fun c => ?_) (fun c => ?_)
        ·
          have c8 : ((i 7299) - x2).toInt < x1.toInt := kd_lt c; clear c
          refine ft_go mi_k37 1 31 [(0, .ref 114), (1, .int x1), (2, .int x2)] [.int 0] i a q r (by rfl) ?_
          exact ft_ret mi_k37 (by rfl) (hP 0 (Or.inr ⟨rfl, (oz1276 c8 s7)⟩))
        ·
          have c9 : x1.toInt ≤ ((i 7299) - x2).toInt := kd_ltF c; clear c
          refine ft_go mi_k37 2 31 [(0, .ref 114), (1, .int x1), (2, .int x2)] [.int 1] i a q r (by rfl) ?_
          exact ft_ret mi_k37 (by rfl) (hP 1 (Or.inl ⟨rfl, (oz1277 c2 c4 c6 c9 s7 kn0)⟩))
