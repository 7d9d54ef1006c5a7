set_option maxRecDepth 100000 in
theorem ke230_1000013 {i : Nat → Int32} {a : Nat → List Int32} {q : Nat → List Int64} {r : Nat → Nat} (hI : kI i a q) (hr : kr r)  : km 1 230 [.ref (mi_RO + 13)] (ks i a q r) (kPI (ks i a q r) (fun v => v.toInt = 0)) := by
  have hG := kG_self kW0 hI hr
  refine km_ofPI (q := (mi_h230, mi_c230)) rfl (by decide) (Nat.le_of_ble_eq_true rfl) ?_
  intro P hP
  refine ft_go mi_k230 5 14 [(0, .ref (mi_RO + 13))] [.int 0] i a q r (by rfl) ?_
  exact ft_ret mi_k230 (by rfl) (hP 0 (op41 kop0))
set_option maxRecDepth 100000 in
theorem ke227_1000013 {i : Nat → Int32} {a : Nat → List Int32} {q : Nat → List Int64} {r : Nat → Nat} (hI : kI i a q) (hr : kr r)  : km 3 227 [.ref (mi_RO + 13)] (ks i a q r) (kPI (ks i a q r) (fun v => v.toInt = 2)) := by
  have hG := kG_self kW0 hI hr
  refine km_ofPI (q := (mi_h227, mi_c227)) rfl (by decide) (Nat.le_of_ble_eq_true rfl) ?_
  intro P hP
  first | refine ft_go mi_k227 4 6 [(0, .ref (mi_RO + 13))] [.ref (mi_RO + 13), .int 2] i a q r (by rfl) ?_ | refine ko_steps mi_in227 4 _ (6, [(0, .ref (mi_RO + 13))], [.ref (mi_RO + 13), .int 2], (0, 0), ks i a q r) (by rfl) ?_
  refine ko_callPI mi_k227.1 (pc := 6) (ls := [(0, .ref (mi_RO + 13))]) (st := [.ref (mi_RO + 13), .int 2]) (h := ks i a q r) (i := (.invokevirtual 335, 3, 230, 0, 9, 0, 32)) (mi_k227.2 _ _ (by rfl)) (ft_invS mi_pq230 (by rfl)) (cy := mi_c230) mi_pq230 rfl (ke230_1000013 hG.I hG.R ) (by decide) ?_
  intro vg1 hg1
  have z2 : vg1.toInt = 0 := hg1
  refine ko_eq (x1 := (9, [(0, .ref (mi_RO + 13))], [.int 0, .int 2], (0, 0), ks i a q r)) (by rw [(kj_eq (op41 z2) (by decide) : vg1 = 0)]) ?_
  first | refine ft_go mi_k227 1 10 [(0, .ref (mi_RO + 13))] [.int ((2 : Int32) >>> ((0 : Int32) &&& 31))] i a q r (by rfl) ?_ | refine ko_steps mi_in227 1 _ (10, [(0, .ref (mi_RO + 13))], [.int ((2 : Int32) >>> ((0 : Int32) &&& 31))], (0, 0), ks i a q r) (by rfl) ?_
  refine ko_eq (x1 := (10, [(0, .ref (mi_RO + 13))], [.int 2], (0, 0), ks i a q r)) (by rw [(by decide : ((2 : Int32) >>> ((0 : Int32) &&& 31) : Int32) = 2)]) ?_
  exact ft_ret mi_k227 (by rfl) (hP 2 (op124 kop2))
set_option maxRecDepth 100000 in
theorem ke234_1000023_l10_l22 {i : Nat → Int32} {a : Nat → List Int32} {q : Nat → List Int64} {r : Nat → Nat} (hI : kI i a q) (hr : kr r) (x2 : Int32) (hp0 : ((0 : Int) ≤ x2.toInt) ∧ (x2.toInt ≤ 255)) : km 1 234 [.ref (mi_RO + 23), .int x2, .int 0, .int 2] (ks i a q r) (kPI (ks i a q r) (fun v => (((-1) : Int) ≤ v.toInt) ∧ (v.toInt ≤ 1) ∧ (((x2.toInt = 43) → (v.toInt = 0))) ∧ (((x2.toInt = 45) → (v.toInt = 1))) ∧ (((v.toInt = 0) → (x2.toInt = 43))) ∧ (((v.toInt = 1) → (x2.toInt = 45))) ∧ ((v.toInt = (-1)) ∨ (x2.toInt = 43) ∨ (x2.toInt = 45)))) := by
  have hG := kG_self kW0 hI hr
  refine km_ofPI (q := (mi_h234, mi_c234)) rfl (by decide) (Nat.le_of_ble_eq_true rfl) ?_
  intro P hP
  have s1 : ((x2.toInt ≤ 127 → x2.toInt8.toInt32.toInt = x2.toInt)) ∧ ((128 ≤ x2.toInt → x2.toInt8.toInt32.toInt = x2.toInt - 256)) := kd_i2b (op4 hp0.1) (op40 hp0.2)
  first | refine ft_go mi_k234 12 19 [(5, .int 0), (4, .int x2.toInt8.toInt32), (0, .ref (mi_RO + 23)), (1, .int x2), (2, .int 0), (3, .int 2)] [.int x2.toInt8.toInt32, .int 43] i a q r (by rfl) ?_ | refine ko_steps mi_in234 12 _ (19, [(5, .int 0), (4, .int x2.toInt8.toInt32), (0, .ref (mi_RO + 23)), (1, .int x2), (2, .int 0), (3, .int 2)], [.int x2.toInt8.toInt32, .int 43], (0, 0), ks i a q r) (by rfl) ?_
  refine ft_if mi_k234 (43 != x2.toInt8.toInt32) 25 22 [(5, .int 0), (4, .int x2.toInt8.toInt32), (0, .ref (mi_RO + 23)), (1, .int x2), (2, .int 0), (3, .int 2)] [] (by rfl) (fun c => ?_) (fun c => ?_)
  ·
    have c2 : (43 : Int32).toInt ≠ x2.toInt8.toInt32.toInt := kd_ne c; clear c
    first | refine ft_go mi_k234 1 28 [(5, .int (0 + 1)), (4, .int x2.toInt8.toInt32), (0, .ref (mi_RO + 23)), (1, .int x2), (2, .int 0), (3, .int 2)] [] i a q r (by rfl) ?_ | refine ko_steps mi_in234 1 _ (28, [(5, .int (0 + 1)), (4, .int x2.toInt8.toInt32), (0, .ref (mi_RO + 23)), (1, .int x2), (2, .int 0), (3, .int 2)], [], (0, 0), ks i a q r) (by rfl) ?_
    refine ko_eq (x1 := (28, [(5, .int 1), (4, .int x2.toInt8.toInt32), (0, .ref (mi_RO + 23)), (1, .int x2), (2, .int 0), (3, .int 2)], [], (0, 0), ks i a q r)) (by rw [(by decide : (0 + 1 : Int32) = 1)]) ?_
    first | refine ft_go mi_k234 8 19 [(5, .int 1), (4, .int x2.toInt8.toInt32), (0, .ref (mi_RO + 23)), (1, .int x2), (2, .int 0), (3, .int 2)] [.int x2.toInt8.toInt32, .int 45] i a q r (by rfl) ?_ | refine ko_steps mi_in234 8 _ (19, [(5, .int 1), (4, .int x2.toInt8.toInt32), (0, .ref (mi_RO + 23)), (1, .int x2), (2, .int 0), (3, .int 2)], [.int x2.toInt8.toInt32, .int 45], (0, 0), ks i a q r) (by rfl) ?_
    refine ft_if mi_k234 (45 != x2.toInt8.toInt32) 25 22 [(5, .int 1), (4, .int x2.toInt8.toInt32), (0, .ref (mi_RO + 23)), (1, .int x2), (2, .int 0), (3, .int 2)] [] (by rfl) (fun c => ?_) (fun c => ?_)
    ·
      have c3 : (45 : Int32).toInt ≠ x2.toInt8.toInt32.toInt := kd_ne c; clear c
      first | refine ft_go mi_k234 1 28 [(5, .int (1 + 1)), (4, .int x2.toInt8.toInt32), (0, .ref (mi_RO + 23)), (1, .int x2), (2, .int 0), (3, .int 2)] [] i a q r (by rfl) ?_ | refine ko_steps mi_in234 1 _ (28, [(5, .int (1 + 1)), (4, .int x2.toInt8.toInt32), (0, .ref (mi_RO + 23)), (1, .int x2), (2, .int 0), (3, .int 2)], [], (0, 0), ks i a q r) (by rfl) ?_
      refine ko_eq (x1 := (28, [(5, .int 2), (4, .int x2.toInt8.toInt32), (0, .ref (mi_RO + 23)), (1, .int x2), (2, .int 0), (3, .int 2)], [], (0, 0), ks i a q r)) (by rw [(by decide : (1 + 1 : Int32) = 2)]) ?_
      first | refine ft_go mi_k234 5 32 [(5, .int 2), (4, .int x2.toInt8.toInt32), (0, .ref (mi_RO + 23)), (1, .int x2), (2, .int 0), (3, .int 2)] [.int (-1)] i a q r (by rfl) ?_ | refine ko_steps mi_in234 5 _ (32, [(5, .int 2), (4, .int x2.toInt8.toInt32), (0, .ref (mi_RO + 23)), (1, .int x2), (2, .int 0), (3, .int 2)], [.int (-1)], (0, 0), ks i a q r) (by rfl) ?_
      exact ft_ret mi_k234 (by rfl) (hP (-1) (op125 c2 c3 s1.1 kop43 kop45 kopm1))
    ·
      have c4 : (45 : Int32).toInt = x2.toInt8.toInt32.toInt := kd_neF c; clear c
      first | refine ft_go mi_k234 1 24 [(5, .int 1), (4, .int x2.toInt8.toInt32), (0, .ref (mi_RO + 23)), (1, .int x2), (2, .int 0), (3, .int 2)] [.int 1] i a q r (by rfl) ?_ | refine ko_steps mi_in234 1 _ (24, [(5, .int 1), (4, .int x2.toInt8.toInt32), (0, .ref (mi_RO + 23)), (1, .int x2), (2, .int 0), (3, .int 2)], [.int 1], (0, 0), ks i a q r) (by rfl) ?_
      exact ft_ret mi_k234 (by rfl) (hP 1 (op126 c4 hp0.2 s1.1 s1.2 kop45 kop1))
  ·
    have c5 : (43 : Int32).toInt = x2.toInt8.toInt32.toInt := kd_neF c; clear c
    first | refine ft_go mi_k234 1 24 [(5, .int 0), (4, .int x2.toInt8.toInt32), (0, .ref (mi_RO + 23)), (1, .int x2), (2, .int 0), (3, .int 2)] [.int 0] i a q r (by rfl) ?_ | refine ko_steps mi_in234 1 _ (24, [(5, .int 0), (4, .int x2.toInt8.toInt32), (0, .ref (mi_RO + 23)), (1, .int x2), (2, .int 0), (3, .int 2)], [.int 0], (0, 0), ks i a q r) (by rfl) ?_
    exact ft_ret mi_k234 (by rfl) (hP 0 (op127 c5 hp0.2 s1.1 s1.2 kop43 kop0))
set_option maxRecDepth 100000 in
theorem ke233_1000023_l10_l22 {i : Nat → Int32} {a : Nat → List Int32} {q : Nat → List Int64} {r : Nat → Nat} (hI : kI i a q) (hr : kr r) (x2 : Int32) (hp0 : ((0 : Int) ≤ x2.toInt) ∧ (x2.toInt ≤ 255)) : km 3 233 [.ref (mi_RO + 23), .int x2, .int 0, .int 2] (ks i a q r) (kPI (ks i a q r) (fun v => (((-1) : Int) ≤ v.toInt) ∧ (v.toInt ≤ 1) ∧ (((x2.toInt = 43) → (v.toInt = 0))) ∧ (((x2.toInt = 45) → (v.toInt = 1))) ∧ (((v.toInt = 0) → (x2.toInt = 43))) ∧ (((v.toInt = 1) → (x2.toInt = 45))) ∧ ((v.toInt = (-1)) ∨ (x2.toInt = 43) ∨ (x2.toInt = 45)))) := by
  have hG := kG_self kW0 hI hr
  refine km_ofPI (q := (mi_h233, mi_c233)) rfl (by decide) (Nat.le_of_ble_eq_true rfl) ?_
  intro P hP
  first | refine ft_go mi_k233 1 1 [(0, .ref (mi_RO + 23)), (1, .int x2), (2, .int 0), (3, .int 2)] [.int x2] i a q r (by rfl) ?_ | refine ko_steps mi_in233 1 _ (1, [(0, .ref (mi_RO + 23)), (1, .int x2), (2, .int 0), (3, .int 2)], [.int x2], (0, 0), ks i a q r) (by rfl) ?_
  refine ko_callPI mi_k233.1 (pc := 1) (ls := [(0, .ref (mi_RO + 23)), (1, .int x2), (2, .int 0), (3, .int 2)]) (st := [.int x2]) (h := ks i a q r) (i := (.invokestatic 88, 3, 232, 0, 9, 0, 195)) (mi_k233.2 _ _ (by rfl)) (ft_invS mi_pq232 (by rfl)) (cy := mi_c232) mi_pq232 rfl (ke232 hG.I hG.R x2) (by decide) ?_
  intro vg1 hg1
  rcases hg1 with ⟨eg1, hg1⟩ | ⟨eg1, hg1⟩
  ·
    subst eg1
    have z2 : ((0 : Int) ≤ x2.toInt) ∧ (x2.toInt ≤ 255) := hg1
    first | refine ft_go mi_k233 4 14 [(0, .ref (mi_RO + 23)), (1, .int x2), (2, .int 0), (3, .int 2)] [.int (bif decide ((0 : Int32) < 0) then 0 else 0)] i a q r (by rfl) ?_ | refine ko_steps mi_in233 4 _ (14, [(0, .ref (mi_RO + 23)), (1, .int x2), (2, .int 0), (3, .int 2)], [.int (bif decide ((0 : Int32) < 0) then 0 else 0)], (0, 0), ks i a q r) (by rfl) ?_
    refine ko_eq (x1 := (14, [(0, .ref (mi_RO + 23)), (1, .int x2), (2, .int 0), (3, .int 2)], [.int 0], (0, 0), ks i a q r)) (by rw [(by decide : (bif decide ((0 : Int32) < 0) then 0 else 0 : Int32) = 0)]) ?_
    first | refine ft_go mi_k233 5 21 [(2, .int 0), (0, .ref (mi_RO + 23)), (1, .int x2), (3, .int 2)] [.int (bif decide ((2 : Int32) < 2) then 2 else 2)] i a q r (by rfl) ?_ | refine ko_steps mi_in233 5 _ (21, [(2, .int 0), (0, .ref (mi_RO + 23)), (1, .int x2), (3, .int 2)], [.int (bif decide ((2 : Int32) < 2) then 2 else 2)], (0, 0), ks i a q r) (by rfl) ?_
    refine ko_eq (x1 := (21, [(2, .int 0), (0, .ref (mi_RO + 23)), (1, .int x2), (3, .int 2)], [.int 2], (0, 0), ks i a q r)) (by rw [(by decide : (bif decide ((2 : Int32) < 2) then 2 else 2 : Int32) = 2)]) ?_
    first | refine ft_go mi_k233 8 33 [(3, .int 2), (2, .int 0), (0, .ref (mi_RO + 23)), (1, .int x2)] [.int 2, .int 0, .int x2, .ref (mi_RO + 23)] i a q r (by rfl) ?_ | refine ko_steps mi_in233 8 _ (33, [(3, .int 2), (2, .int 0), (0, .ref (mi_RO + 23)), (1, .int x2)], [.int 2, .int 0, .int x2, .ref (mi_RO + 23)], (0, 0), ks i a q r) (by rfl) ?_
    refine ko_callPI mi_k233.1 (pc := 33) (ls := [(3, .int 2), (2, .int 0), (0, .ref (mi_RO + 23)), (1, .int x2)]) (st := [.int 2, .int 0, .int x2, .ref (mi_RO + 23)]) (h := ks i a q r) (i := (.invokestatic 95, 3, 234, 0, 9, 0, 198)) (mi_k233.2 _ _ (by rfl)) (ft_invS mi_pq234 (by rfl)) (cy := mi_c234) mi_pq234 rfl (ke234_1000023_l10_l22 hG.I hG.R x2 (op53 hp0.1 hp0.2)) (by decide) ?_
    intro vg3 hg3
    have z4 : (((-1) : Int) ≤ vg3.toInt) ∧ (vg3.toInt ≤ 1) ∧ (((x2.toInt = 43) → (vg3.toInt = 0))) ∧ (((x2.toInt = 45) → (vg3.toInt = 1))) ∧ (((vg3.toInt = 0) → (x2.toInt = 43))) ∧ (((vg3.toInt = 1) → (x2.toInt = 45))) ∧ ((vg3.toInt = (-1)) ∨ (x2.toInt = 43) ∨ (x2.toInt = 45)) := hg3
    exact ft_ret mi_k233 (by rfl) (hP vg3 (op128 z4.1 z4.2.1 z4.2.2.1 z4.2.2.2.1 z4.2.2.2.2.1 z4.2.2.2.2.2.1))
  ·
    subst eg1
    have z5 : ¬ (((0 : Int) ≤ x2.toInt) ∧ (x2.toInt ≤ 255)) := hg1
    exact (op55 hp0.1 hp0.2 z5).elim
set_option maxRecDepth 100000 in
theorem ke229_1000013_l10 {i : Nat → Int32} {a : Nat → List Int32} {q : Nat → List Int64} {r : Nat → Nat} (hI : kI i a q) (hr : kr r) (x1 : Int32) (hp0 : ((0 : Int) ≤ x1.toInt) ∧ (x1.toInt ≤ 255)) : km 5 229 [.ref (mi_RO + 13), .int x1, .int 0] (ks i a q r) (kPI (ks i a q r) (fun v => (((-1) : Int) ≤ v.toInt) ∧ (v.toInt ≤ 1) ∧ (((x1.toInt = 43) → (v.toInt = 0))) ∧ (((x1.toInt = 45) → (v.toInt = 1))) ∧ (((v.toInt = 0) → (x1.toInt = 43))) ∧ (((v.toInt = 1) → (x1.toInt = 45))) ∧ ((v.toInt = (-1)) ∨ (x1.toInt = 43) ∨ (x1.toInt = 45)))) := by
  have hG := kG_self kW0 hI hr
  refine km_ofPI (q := (mi_h229, mi_c229)) rfl (by decide) (Nat.le_of_ble_eq_true rfl) ?_
  intro P hP
  refine ft_go mi_k229 1 1 [(0, .ref (mi_RO + 13)), (1, .int x1), (2, .int 0)] [.ref (mi_RO + 13)] i a q r (by rfl) ?_
  refine ko_callPI mi_k229.1 (pc := 1) (ls := [(0, .ref (mi_RO + 13)), (1, .int x1), (2, .int 0)]) (st := [.ref (mi_RO + 13)]) (h := ks i a q r) (i := (.invokevirtual 492, 3, 231, 0, 9, 0, 192)) (mi_k229.2 _ _ (by rfl)) (ft_invS mi_pq231 (by rfl)) (cy := mi_c231) mi_pq231 rfl (kc231_S13 hG.I hG.R ) (by decide) ?_
  intro vg1 hg1
  rcases hg1 with ⟨eg1, hg1⟩ | ⟨eg1, hg1⟩
  ·
    subst eg1
    refine ft_go mi_k229 6 14 [(0, .ref (mi_RO + 13)), (1, .int x1), (2, .int 0)] [.ref (mi_RO + 13), .int 0, .int x1, .ref (mi_RO + 23)] i a q r (by rfl) ?_
    refine ko_callPI mi_k229.1 (pc := 14) (ls := [(0, .ref (mi_RO + 13)), (1, .int x1), (2, .int 0)]) (st := [.ref (mi_RO + 13), .int 0, .int x1, .ref (mi_RO + 23)]) (h := ks i a q r) (i := (.invokevirtual 505, 3, 227, 0, 9, 0, 193)) (mi_k229.2 _ _ (by rfl)) (ft_invS mi_pq227 (by rfl)) (cy := mi_c227) mi_pq227 rfl (ke227_1000013 hG.I hG.R ) (by decide) ?_
    intro vg2 hg2
    have z3 : vg2.toInt = 2 := hg2
    refine ko_eq (x1 := (17, [(0, .ref (mi_RO + 13)), (1, .int x1), (2, .int 0)], [.int 2, .int 0, .int x1, .ref (mi_RO + 23)], (0, 0), ks i a q r)) (by rw [(kj_eq (op124 z3) (by decide) : vg2 = 2)]) ?_
    refine ko_callPI mi_k229.1 (pc := 17) (ls := [(0, .ref (mi_RO + 13)), (1, .int x1), (2, .int 0)]) (st := [.int 2, .int 0, .int x1, .ref (mi_RO + 23)]) (h := ks i a q r) (i := (.invokestatic 637, 3, 233, 0, 9, 0, 194)) (mi_k229.2 _ _ (by rfl)) (ft_invS mi_pq233 (by rfl)) (cy := mi_c233) mi_pq233 rfl (ke233_1000023_l10_l22 hG.I hG.R x1 (op53 hp0.1 hp0.2)) (by decide) ?_
    intro vg4 hg4
    have z5 : (((-1) : Int) ≤ vg4.toInt) ∧ (vg4.toInt ≤ 1) ∧ (((x1.toInt = 43) → (vg4.toInt = 0))) ∧ (((x1.toInt = 45) → (vg4.toInt = 1))) ∧ (((vg4.toInt = 0) → (x1.toInt = 43))) ∧ (((vg4.toInt = 1) → (x1.toInt = 45))) ∧ ((vg4.toInt = (-1)) ∨ (x1.toInt = 43) ∨ (x1.toInt = 45)) := hg4
    refine ft_go mi_k229 1 36 [(0, .ref (mi_RO + 13)), (1, .int x1), (2, .int 0)] [.int vg4] i a q r (by rfl) ?_
    exact ft_ret mi_k229 (by rfl) (hP vg4 (op128 z5.1 z5.2.1 z5.2.2.1 z5.2.2.2.1 z5.2.2.2.2.1 z5.2.2.2.2.2.1))
  ·
    subst eg1
    have z6 : (2 : Int) ≤ 1 := hg1
    exact (op56 z6).elim
set_option maxRecDepth 100000 in
theorem ke228_1000013 {i : Nat → Int32} {a : Nat → List Int32} {q : Nat → List Int64} {r : Nat → Nat} (hI : kI i a q) (hr : kr r) (x1 : Int32) (hp0 : ((0 : Int) ≤ x1.toInt) ∧ (x1.toInt ≤ 255)) : km 7 228 [.ref (mi_RO + 13), .int x1] (ks i a q r) (kPI (ks i a q r) (fun v => (((-1) : Int) ≤ v.toInt) ∧ (v.toInt ≤ 1) ∧ (((x1.toInt = 43) → (v.toInt = 0))) ∧ (((x1.toInt = 45) → (v.toInt = 1))) ∧ (((v.toInt = 0) → (x1.toInt = 43))) ∧ (((v.toInt = 1) → (x1.toInt = 45))) ∧ ((v.toInt = (-1)) ∨ (x1.toInt = 43) ∨ (x1.toInt = 45)))) := by
  have hG := kG_self kW0 hI hr
  refine km_ofPI (q := (mi_h228, mi_c228)) rfl (by decide) (Nat.le_of_ble_eq_true rfl) ?_
  intro P hP
  refine ft_go mi_k228 3 3 [(0, .ref (mi_RO + 13)), (1, .int x1)] [.int 0, .int x1, .ref (mi_RO + 13)] i a q r (by rfl) ?_
  refine ko_callPI mi_k228.1 (pc := 3) (ls := [(0, .ref (mi_RO + 13)), (1, .int x1)]) (st := [.int 0, .int x1, .ref (mi_RO + 13)]) (h := ks i a q r) (i := (.invokevirtual 633, 3, 229, 0, 9, 0, 191)) (mi_k228.2 _ _ (by rfl)) (ft_invS mi_pq229 (by rfl)) (cy := mi_c229) mi_pq229 rfl (ke229_1000013_l10 hG.I hG.R x1 (op53 hp0.1 hp0.2)) (by decide) ?_
  intro vg1 hg1
  have z2 : (((-1) : Int) ≤ vg1.toInt) ∧ (vg1.toInt ≤ 1) ∧ (((x1.toInt = 43) → (vg1.toInt = 0))) ∧ (((x1.toInt = 45) → (vg1.toInt = 1))) ∧ (((vg1.toInt = 0) → (x1.toInt = 43))) ∧ (((vg1.toInt = 1) → (x1.toInt = 45))) ∧ ((vg1.toInt = (-1)) ∨ (x1.toInt = 43) ∨ (x1.toInt = 45)) := hg1
  exact ft_ret mi_k228 (by rfl) (hP vg1 (op128 z2.1 z2.2.1 z2.2.2.1 z2.2.2.2.1 z2.2.2.2.2.1 z2.2.2.2.2.2.1))
def yw47_98_1000013 : kW := ([6274], [], [], [])
set_option maxRecDepth 100000 in
theorem ke47_98_1000013 {i : Nat → Int32} {a : Nat → List Int32} {q : Nat → List Int64} {r : Nat → Nat} (hI : kI i a q) (hr : kr r) (t : List Int32) (nn : Int32) (hT : a 99 = t) (hN : i 6273 = nn) (hX : kBy t) : km 9 47 [.ref 98, .ref (mi_RO + 13)] (ks i a q r) (kVI yw47_98_1000013 i a q r (fun v i1 a1 q1 r1 => (((v.toInt = (-1)) ∧ ((i1 6274).toInt = (i 6274).toInt)) ∨ (((i1 6274).toInt = ((i 6274).toInt + 1)) ∧ ((i 6274).toInt < (i 6273).toInt) ∧ ((i 6275).toInt = 0) ∧ ((v.toInt = 43) ∨ (v.toInt = 45)))) ∧ (v, i1 6274) = cOfP t nn oSum (i 6274) (i 6275))) := by
  have hG := kG_self yw47_98_1000013 hI hr
  refine km_ofI (q := (mi_h47, mi_c47)) rfl (by decide) (Nat.le_of_ble_eq_true rfl) ?_
  intro P hP
  have hn1 : (i 6273).toInt = nn.toInt := congrArg Int32.toInt hN
  refine ft_go mi_k47 1 1 [(0, .ref 98), (1, .ref (mi_RO + 13))] [.ref 98] i a q r (by rfl) ?_
  refine ko_callPI mi_k47.1 (pc := 1) (ls := [(0, .ref 98), (1, .ref (mi_RO + 13))]) (st := [.ref 98]) (h := ks i a q r) (i := (.invokevirtual 46, 3, 45, 0, 9, 0, 184)) (mi_k47.2 _ _ (by rfl)) (ft_invS mi_pq45 (by rfl)) (cy := mi_c45) mi_pq45 rfl (ke45_98 hG.I hG.R t nn hT hN hX) (by decide) ?_
  intro vg2 hg2
  obtain ⟨hg2, og2⟩ := hg2
  have fi_6275 : ((0 : Int) ≤ (i 6275).toInt) ∧ ((i 6275).toInt ≤ 1) := hG.I.1 6275
  have fi_6274 : ((0 : Int) ≤ (i 6274).toInt) ∧ ((i 6274).toInt ≤ 120) := hG.I.1 6274
  have fi_6273 : ((0 : Int) ≤ (i 6273).toInt) ∧ ((i 6273).toInt ≤ 120) := hG.I.1 6273
  have z3 : (((-1) : Int) ≤ vg2.toInt) ∧ (vg2.toInt ≤ 255) ∧ ((vg2.toInt = (-1)) ∨ (((i 6275).toInt = 0) ∧ ((i 6274).toInt < (i 6273).toInt))) := hg2
  have q4 : vg2 = cHr t nn (i 6274) (i 6275) := og2
  have hv5 : vg2.toInt = (cHr t nn (i 6274) (i 6275)).toInt := congrArg Int32.toInt og2
  refine ft_go mi_k47 3 7 [(2, .int vg2), (0, .ref 98), (1, .ref (mi_RO + 13))] [.int (-1), .int vg2] i a q r (by rfl) ?_
  refine ft_if mi_k47 (vg2 == (-1)) 19 10 [(2, .int vg2), (0, .ref 98), (1, .ref (mi_RO + 13))] [] (by rfl) (fun c => ?_) (fun c => ?_)
  ·
    have c6 : vg2.toInt = ((-1) : Int32).toInt := kd_eq c; clear c
    refine ft_go mi_k47 1 20 [(2, .int vg2), (0, .ref 98), (1, .ref (mi_RO + 13))] [.int (-1)] i a q r (by rfl) ?_
    exact ft_ret mi_k47 (by rfl) (hP (-1) _ _ _ _ hG ⟨(op122 kopm1), (ofP_n (o := oSum) (decide_eq_false (op123 c6 hv5 kopm1)))⟩)
  ·
    have c7 : vg2.toInt ≠ ((-1) : Int32).toInt := kd_eqF c; clear c
    have s8 : ((vg2.toUInt32 % 65536).toInt32).toInt = vg2.toInt := kd_i2c (op39 c7 z3.1 kopm1) (Int.le_trans (op40 z3.2.1) (by decide))
    refine ft_go mi_k47 3 13 [(2, .int vg2), (0, .ref 98), (1, .ref (mi_RO + 13))] [.int ((vg2.toUInt32 % 65536).toInt32), .ref (mi_RO + 13)] i a q r (by rfl) ?_
    refine ko_callPI mi_k47.1 (pc := 13) (ls := [(2, .int vg2), (0, .ref 98), (1, .ref (mi_RO + 13))]) (st := [.int ((vg2.toUInt32 % 65536).toInt32), .ref (mi_RO + 13)]) (h := ks i a q r) (i := (.invokevirtual 50, 3, 228, 0, 9, 0, 190)) (mi_k47.2 _ _ (by rfl)) (ft_invS mi_pq228 (by rfl)) (cy := mi_c228) mi_pq228 rfl (ke228_1000013 hG.I hG.R ((vg2.toUInt32 % 65536).toInt32) (op57 c7 s8 z3.1 z3.2.1 kopm1)) (by decide) ?_
    intro vg9 hg9
    have z10 : (((-1) : Int) ≤ vg9.toInt) ∧ (vg9.toInt ≤ 1) ∧ (((((vg2.toUInt32 % 65536).toInt32).toInt = 43) → (vg9.toInt = 0))) ∧ (((((vg2.toUInt32 % 65536).toInt32).toInt = 45) → (vg9.toInt = 1))) ∧ (((vg9.toInt = 0) → (((vg2.toUInt32 % 65536).toInt32).toInt = 43))) ∧ (((vg9.toInt = 1) → (((vg2.toUInt32 % 65536).toInt32).toInt = 45))) ∧ ((vg9.toInt = (-1)) ∨ (((vg2.toUInt32 % 65536).toInt32).toInt = 43) ∨ (((vg2.toUInt32 % 65536).toInt32).toInt = 45)) := hg9
    refine ft_if mi_k47 (decide (0 ≤ vg9)) 21 19 [(2, .int vg2), (0, .ref 98), (1, .ref (mi_RO + 13))] [] (by rfl) (fun c => ?_) (fun c => ?_)
    ·
      have c11 : (0 : Int32).toInt ≤ vg9.toInt := kd_le c; clear c
      have s12 : ((i 6274) + 1).toInt = (i 6274).toInt + (1 : Int32).toInt := kd_add (op18 fi_6274.1 kop1) (op26 fi_6274.2 kop1)
      have hJ13 := kG_i hG 6274 rfl (v := ((i 6274) + 1)) ⟨(op20 fi_6274.1 s12 kop1), (op58 c7 fi_6273.2 s12 z3.1 z3.2.2 kopm1 kop1)⟩
      refine ft_go mi_k47 7 32 [(2, .int vg2), (0, .ref 98), (1, .ref (mi_RO + 13))] [.int vg2] (ku i 6274 ((i 6274) + 1)) a q r (by rfl) ?_
      exact ft_ret mi_k47 (by rfl) (hP vg2 _ _ _ _ hJ13 ⟨(op129 c11 c7 fi_6275.1 s12 s8 z10.2.1 z10.2.2.1 z10.2.2.2.2.1 z10.2.2.2.2.2.1 z3.1 z3.2.2 kop0 kopm1 kop1), (ofP_y (o := oSum) (decide_eq_true (op130 c11 hv5 s8 z10.2.1 z10.2.2.1 z10.2.2.2.2.1 z10.2.2.2.2.2.1 kop0)) og2)⟩)
    ·
      have c14 : vg9.toInt < (0 : Int32).toInt := kd_leF c; clear c
      refine ft_go mi_k47 1 20 [(2, .int vg2), (0, .ref 98), (1, .ref (mi_RO + 13))] [.int (-1)] i a q r (by rfl) ?_
      exact ft_ret mi_k47 (by rfl) (hP (-1) _ _ _ _ hG ⟨(op122 kopm1), (ofP_n (o := oSum) (decide_eq_false (op131 c14 hv5 s8 z10.2.2.1 z10.2.2.2.1 kop0)))⟩)
set_option maxRecDepth 100000 in
theorem ke230_1000014 {i : Nat → Int32} {a : Nat → List Int32} {q : Nat → List Int64} {r : Nat → Nat} (hI : kI i a q) (hr : kr r)  : km 1 230 [.ref (mi_RO + 14)] (ks i a q r) (kPI (ks i a q r) (fun v => v.toInt = 0)) := by
  have hG := kG_self kW0 hI hr
  refine km_ofPI (q := (mi_h230, mi_c230)) rfl (by decide) (Nat.le_of_ble_eq_true rfl) ?_
  intro P hP
  refine ft_go mi_k230 5 14 [(0, .ref (mi_RO + 14))] [.int 0] i a q r (by rfl) ?_
  exact ft_ret mi_k230 (by rfl) (hP 0 (op41 kop0))
set_option maxRecDepth 100000 in
theorem ke227_1000014 {i : Nat → Int32} {a : Nat → List Int32} {q : Nat → List Int64} {r : Nat → Nat} (hI : kI i a q) (hr : kr r)  : km 3 227 [.ref (mi_RO + 14)] (ks i a q r) (kPI (ks i a q r) (fun v => v.toInt = 3)) := by
  have hG := kG_self kW0 hI hr
  refine km_ofPI (q := (mi_h227, mi_c227)) rfl (by decide) (Nat.le_of_ble_eq_true rfl) ?_
  intro P hP
  first | refine ft_go mi_k227 4 6 [(0, .ref (mi_RO + 14))] [.ref (mi_RO + 14), .int 3] i a q r (by rfl) ?_ | refine ko_steps mi_in227 4 _ (6, [(0, .ref (mi_RO + 14))], [.ref (mi_RO + 14), .int 3], (0, 0), ks i a q r) (by rfl) ?_
  refine ko_callPI mi_k227.1 (pc := 6) (ls := [(0, .ref (mi_RO + 14))]) (st := [.ref (mi_RO + 14), .int 3]) (h := ks i a q r) (i := (.invokevirtual 335, 3, 230, 0, 9, 0, 32)) (mi_k227.2 _ _ (by rfl)) (ft_invS mi_pq230 (by rfl)) (cy := mi_c230) mi_pq230 rfl (ke230_1000014 hG.I hG.R ) (by decide) ?_
  intro vg1 hg1
  have z2 : vg1.toInt = 0 := hg1
  refine ko_eq (x1 := (9, [(0, .ref (mi_RO + 14))], [.int 0, .int 3], (0, 0), ks i a q r)) (by rw [(kj_eq (op41 z2) (by decide) : vg1 = 0)]) ?_
  first | refine ft_go mi_k227 1 10 [(0, .ref (mi_RO + 14))] [.int ((3 : Int32) >>> ((0 : Int32) &&& 31))] i a q r (by rfl) ?_ | refine ko_steps mi_in227 1 _ (10, [(0, .ref (mi_RO + 14))], [.int ((3 : Int32) >>> ((0 : Int32) &&& 31))], (0, 0), ks i a q r) (by rfl) ?_
  refine ko_eq (x1 := (10, [(0, .ref (mi_RO + 14))], [.int 3], (0, 0), ks i a q r)) (by rw [(by decide : ((3 : Int32) >>> ((0 : Int32) &&& 31) : Int32) = 3)]) ?_
  exact ft_ret mi_k227 (by rfl) (hP 3 (op70 kop3))
set_option maxRecDepth 100000 in
theorem ke234_1000024_l10_l23 {i : Nat → Int32} {a : Nat → List Int32} {q : Nat → List Int64} {r : Nat → Nat} (hI : kI i a q) (hr : kr r) (x2 : Int32) (hp0 : ((0 : Int) ≤ x2.toInt) ∧ (x2.toInt ≤ 255)) : km 1 234 [.ref (mi_RO + 24), .int x2, .int 0, .int 3] (ks i a q r) (kPI (ks i a q r) (fun v => (((-1) : Int) ≤ v.toInt) ∧ (v.toInt ≤ 2) ∧ (((x2.toInt = 60) → (v.toInt = 0))) ∧ (((x2.toInt = 61) → (v.toInt = 1))) ∧ (((x2.toInt = 62) → (v.toInt = 2))) ∧ (((v.toInt = 0) → (x2.toInt = 60))) ∧ (((v.toInt = 1) → (x2.toInt = 61))) ∧ (((v.toInt = 2) → (x2.toInt = 62))) ∧ ((v.toInt = (-1)) ∨ (x2.toInt = 60) ∨ (x2.toInt = 61) ∨ (x2.toInt = 62)))) := by
  have hG := kG_self kW0 hI hr
  refine km_ofPI (q := (mi_h234, mi_c234)) rfl (by decide) (Nat.le_of_ble_eq_true rfl) ?_
  intro P hP
  have s1 : ((x2.toInt ≤ 127 → x2.toInt8.toInt32.toInt = x2.toInt)) ∧ ((128 ≤ x2.toInt → x2.toInt8.toInt32.toInt = x2.toInt - 256)) := kd_i2b (op4 hp0.1) (op40 hp0.2)
  first | refine ft_go mi_k234 12 19 [(5, .int 0), (4, .int x2.toInt8.toInt32), (0, .ref (mi_RO + 24)), (1, .int x2), (2, .int 0), (3, .int 3)] [.int x2.toInt8.toInt32, .int 60] i a q r (by rfl) ?_ | refine ko_steps mi_in234 12 _ (19, [(5, .int 0), (4, .int x2.toInt8.toInt32), (0, .ref (mi_RO + 24)), (1, .int x2), (2, .int 0), (3, .int 3)], [.int x2.toInt8.toInt32, .int 60], (0, 0), ks i a q r) (by rfl) ?_
  refine ft_if mi_k234 (60 != x2.toInt8.toInt32) 25 22 [(5, .int 0), (4, .int x2.toInt8.toInt32), (0, .ref (mi_RO + 24)), (1, .int x2), (2, .int 0), (3, .int 3)] [] (by rfl) (fun c => ?_) (fun c => ?_)
  ·
    have c2 : (60 : Int32).toInt ≠ x2.toInt8.toInt32.toInt := kd_ne c; clear c
    first | refine ft_go mi_k234 1 28 [(5, .int (0 + 1)), (4, .int x2.toInt8.toInt32), (0, .ref (mi_RO + 24)), (1, .int x2), (2, .int 0), (3, .int 3)] [] i a q r (by rfl) ?_ | refine ko_steps mi_in234 1 _ (28, [(5, .int (0 + 1)), (4, .int x2.toInt8.toInt32), (0, .ref (mi_RO + 24)), (1, .int x2), (2, .int 0), (3, .int 3)], [], (0, 0), ks i a q r) (by rfl) ?_
    refine ko_eq (x1 := (28, [(5, .int 1), (4, .int x2.toInt8.toInt32), (0, .ref (mi_RO + 24)), (1, .int x2), (2, .int 0), (3, .int 3)], [], (0, 0), ks i a q r)) (by rw [(by decide : (0 + 1 : Int32) = 1)]) ?_
    first | refine ft_go mi_k234 8 19 [(5, .int 1), (4, .int x2.toInt8.toInt32), (0, .ref (mi_RO + 24)), (1, .int x2), (2, .int 0), (3, .int 3)] [.int x2.toInt8.toInt32, .int 61] i a q r (by rfl) ?_ | refine ko_steps mi_in234 8 _ (19, [(5, .int 1), (4, .int x2.toInt8.toInt32), (0, .ref (mi_RO + 24)), (1, .int x2), (2, .int 0), (3, .int 3)], [.int x2.toInt8.toInt32, .int 61], (0, 0), ks i a q r) (by rfl) ?_
    refine ft_if mi_k234 (61 != x2.toInt8.toInt32) 25 22 [(5, .int 1), (4, .int x2.toInt8.toInt32), (0, .ref (mi_RO + 24)), (1, .int x2), (2, .int 0), (3, .int 3)] [] (by rfl) (fun c => ?_) (fun c => ?_)
    ·
      have c3 : (61 : Int32).toInt ≠ x2.toInt8.toInt32.toInt := kd_ne c; clear c
      first | refine ft_go mi_k234 1 28 [(5, .int (1 + 1)), (4, .int x2.toInt8.toInt32), (0, .ref (mi_RO + 24)), (1, .int x2), (2, .int 0), (3, .int 3)] [] i a q r (by rfl) ?_ | refine ko_steps mi_in234 1 _ (28, [(5, .int (1 + 1)), (4, .int x2.toInt8.toInt32), (0, .ref (mi_RO + 24)), (1, .int x2), (2, .int 0), (3, .int 3)], [], (0, 0), ks i a q r) (by rfl) ?_
      refine ko_eq (x1 := (28, [(5, .int 2), (4, .int x2.toInt8.toInt32), (0, .ref (mi_RO + 24)), (1, .int x2), (2, .int 0), (3, .int 3)], [], (0, 0), ks i a q r)) (by rw [(by decide : (1 + 1 : Int32) = 2)]) ?_
      first | refine ft_go mi_k234 8 19 [(5, .int 2), (4, .int x2.toInt8.toInt32), (0, .ref (mi_RO + 24)), (1, .int x2), (2, .int 0), (3, .int 3)] [.int x2.toInt8.toInt32, .int 62] i a q r (by rfl) ?_ | refine ko_steps mi_in234 8 _ (19, [(5, .int 2), (4, .int x2.toInt8.toInt32), (0, .ref (mi_RO + 24)), (1, .int x2), (2, .int 0), (3, .int 3)], [.int x2.toInt8.toInt32, .int 62], (0, 0), ks i a q r) (by rfl) ?_
      refine ft_if mi_k234 (62 != x2.toInt8.toInt32) 25 22 [(5, .int 2), (4, .int x2.toInt8.toInt32), (0, .ref (mi_RO + 24)), (1, .int x2), (2, .int 0), (3, .int 3)] [] (by rfl) (fun c => ?_) (fun c => ?_)
      ·
        have c4 : (62 : Int32).toInt ≠ x2.toInt8.toInt32.toInt := kd_ne c; clear c
        first | refine ft_go mi_k234 1 28 [(5, .int (2 + 1)), (4, .int x2.toInt8.toInt32), (0, .ref (mi_RO + 24)), (1, .int x2), (2, .int 0), (3, .int 3)] [] i a q r (by rfl) ?_ | refine ko_steps mi_in234 1 _ (28, [(5, .int (2 + 1)), (4, .int x2.toInt8.toInt32), (0, .ref (mi_RO + 24)), (1, .int x2), (2, .int 0), (3, .int 3)], [], (0, 0), ks i a q r) (by rfl) ?_
        refine ko_eq (x1 := (28, [(5, .int 3), (4, .int x2.toInt8.toInt32), (0, .ref (mi_RO + 24)), (1, .int x2), (2, .int 0), (3, .int 3)], [], (0, 0), ks i a q r)) (by rw [(by decide : (2 + 1 : Int32) = 3)]) ?_
        first | refine ft_go mi_k234 5 32 [(5, .int 3), (4, .int x2.toInt8.toInt32), (0, .ref (mi_RO + 24)), (1, .int x2), (2, .int 0), (3, .int 3)] [.int (-1)] i a q r (by rfl) ?_ | refine ko_steps mi_in234 5 _ (32, [(5, .int 3), (4, .int x2.toInt8.toInt32), (0, .ref (mi_RO + 24)), (1, .int x2), (2, .int 0), (3, .int 3)], [.int (-1)], (0, 0), ks i a q r) (by rfl) ?_
        exact ft_ret mi_k234 (by rfl) (hP (-1) (op134 c2 c3 c4 s1.1 kop60 kop61 kop62 kopm1))
      ·
        have c5 : (62 : Int32).toInt = x2.toInt8.toInt32.toInt := kd_neF c; clear c
        first | refine ft_go mi_k234 1 24 [(5, .int 2), (4, .int x2.toInt8.toInt32), (0, .ref (mi_RO + 24)), (1, .int x2), (2, .int 0), (3, .int 3)] [.int 2] i a q r (by rfl) ?_ | refine ko_steps mi_in234 1 _ (24, [(5, .int 2), (4, .int x2.toInt8.toInt32), (0, .ref (mi_RO + 24)), (1, .int x2), (2, .int 0), (3, .int 3)], [.int 2], (0, 0), ks i a q r) (by rfl) ?_
        exact ft_ret mi_k234 (by rfl) (hP 2 (op135 c5 hp0.2 s1.1 s1.2 kop62 kop2))
    ·
      have c6 : (61 : Int32).toInt = x2.toInt8.toInt32.toInt := kd_neF c; clear c
      first | refine ft_go mi_k234 1 24 [(5, .int 1), (4, .int x2.toInt8.toInt32), (0, .ref (mi_RO + 24)), (1, .int x2), (2, .int 0), (3, .int 3)] [.int 1] i a q r (by rfl) ?_ | refine ko_steps mi_in234 1 _ (24, [(5, .int 1), (4, .int x2.toInt8.toInt32), (0, .ref (mi_RO + 24)), (1, .int x2), (2, .int 0), (3, .int 3)], [.int 1], (0, 0), ks i a q r) (by rfl) ?_
      exact ft_ret mi_k234 (by rfl) (hP 1 (op136 c6 hp0.2 s1.1 s1.2 kop61 kop1))
  ·
    have c7 : (60 : Int32).toInt = x2.toInt8.toInt32.toInt := kd_neF c; clear c
    first | refine ft_go mi_k234 1 24 [(5, .int 0), (4, .int x2.toInt8.toInt32), (0, .ref (mi_RO + 24)), (1, .int x2), (2, .int 0), (3, .int 3)] [.int 0] i a q r (by rfl) ?_ | refine ko_steps mi_in234 1 _ (24, [(5, .int 0), (4, .int x2.toInt8.toInt32), (0, .ref (mi_RO + 24)), (1, .int x2), (2, .int 0), (3, .int 3)], [.int 0], (0, 0), ks i a q r) (by rfl) ?_
    exact ft_ret mi_k234 (by rfl) (hP 0 (op137 c7 hp0.2 s1.1 s1.2 kop60 kop0))
set_option maxRecDepth 100000 in
theorem ke233_1000024_l10_l23 {i : Nat → Int32} {a : Nat → List Int32} {q : Nat → List Int64} {r : Nat → Nat} (hI : kI i a q) (hr : kr r) (x2 : Int32) (hp0 : ((0 : Int) ≤ x2.toInt) ∧ (x2.toInt ≤ 255)) : km 3 233 [.ref (mi_RO + 24), .int x2, .int 0, .int 3] (ks i a q r) (kPI (ks i a q r) (fun v => (((-1) : Int) ≤ v.toInt) ∧ (v.toInt ≤ 2) ∧ (((x2.toInt = 60) → (v.toInt = 0))) ∧ (((x2.toInt = 61) → (v.toInt = 1))) ∧ (((x2.toInt = 62) → (v.toInt = 2))) ∧ (((v.toInt = 0) → (x2.toInt = 60))) ∧ (((v.toInt = 1) → (x2.toInt = 61))) ∧ (((v.toInt = 2) → (x2.toInt = 62))) ∧ ((v.toInt = (-1)) ∨ (x2.toInt = 60) ∨ (x2.toInt = 61) ∨ (x2.toInt = 62)))) := by
  have hG := kG_self kW0 hI hr
  refine km_ofPI (q := (mi_h233, mi_c233)) rfl (by decide) (Nat.le_of_ble_eq_true rfl) ?_
  intro P hP
  first | refine ft_go mi_k233 1 1 [(0, .ref (mi_RO + 24)), (1, .int x2), (2, .int 0), (3, .int 3)] [.int x2] i a q r (by rfl) ?_ | refine ko_steps mi_in233 1 _ (1, [(0, .ref (mi_RO + 24)), (1, .int x2), (2, .int 0), (3, .int 3)], [.int x2], (0, 0), ks i a q r) (by rfl) ?_
  refine ko_callPI mi_k233.1 (pc := 1) (ls := [(0, .ref (mi_RO + 24)), (1, .int x2), (2, .int 0), (3, .int 3)]) (st := [.int x2]) (h := ks i a q r) (i := (.invokestatic 88, 3, 232, 0, 9, 0, 195)) (mi_k233.2 _ _ (by rfl)) (ft_invS mi_pq232 (by rfl)) (cy := mi_c232) mi_pq232 rfl (ke232 hG.I hG.R x2) (by decide) ?_
  intro vg1 hg1
  rcases hg1 with ⟨eg1, hg1⟩ | ⟨eg1, hg1⟩
  ·
    subst eg1
    have z2 : ((0 : Int) ≤ x2.toInt) ∧ (x2.toInt ≤ 255) := hg1
    first | refine ft_go mi_k233 4 14 [(0, .ref (mi_RO + 24)), (1, .int x2), (2, .int 0), (3, .int 3)] [.int (bif decide ((0 : Int32) < 0) then 0 else 0)] i a q r (by rfl) ?_ | refine ko_steps mi_in233 4 _ (14, [(0, .ref (mi_RO + 24)), (1, .int x2), (2, .int 0), (3, .int 3)], [.int (bif decide ((0 : Int32) < 0) then 0 else 0)], (0, 0), ks i a q r) (by rfl) ?_
    refine ko_eq (x1 := (14, [(0, .ref (mi_RO + 24)), (1, .int x2), (2, .int 0), (3, .int 3)], [.int 0], (0, 0), ks i a q r)) (by rw [(by decide : (bif decide ((0 : Int32) < 0) then 0 else 0 : Int32) = 0)]) ?_
    first | refine ft_go mi_k233 5 21 [(2, .int 0), (0, .ref (mi_RO + 24)), (1, .int x2), (3, .int 3)] [.int (bif decide ((3 : Int32) < 3) then 3 else 3)] i a q r (by rfl) ?_ | refine ko_steps mi_in233 5 _ (21, [(2, .int 0), (0, .ref (mi_RO + 24)), (1, .int x2), (3, .int 3)], [.int (bif decide ((3 : Int32) < 3) then 3 else 3)], (0, 0), ks i a q r) (by rfl) ?_
    refine ko_eq (x1 := (21, [(2, .int 0), (0, .ref (mi_RO + 24)), (1, .int x2), (3, .int 3)], [.int 3], (0, 0), ks i a q r)) (by rw [(by decide : (bif decide ((3 : Int32) < 3) then 3 else 3 : Int32) = 3)]) ?_
    first | refine ft_go mi_k233 8 33 [(3, .int 3), (2, .int 0), (0, .ref (mi_RO + 24)), (1, .int x2)] [.int 3, .int 0, .int x2, .ref (mi_RO + 24)] i a q r (by rfl) ?_ | refine ko_steps mi_in233 8 _ (33, [(3, .int 3), (2, .int 0), (0, .ref (mi_RO + 24)), (1, .int x2)], [.int 3, .int 0, .int x2, .ref (mi_RO + 24)], (0, 0), ks i a q r) (by rfl) ?_
    refine ko_callPI mi_k233.1 (pc := 33) (ls := [(3, .int 3), (2, .int 0), (0, .ref (mi_RO + 24)), (1, .int x2)]) (st := [.int 3, .int 0, .int x2, .ref (mi_RO + 24)]) (h := ks i a q r) (i := (.invokestatic 95, 3, 234, 0, 9, 0, 198)) (mi_k233.2 _ _ (by rfl)) (ft_invS mi_pq234 (by rfl)) (cy := mi_c234) mi_pq234 rfl (ke234_1000024_l10_l23 hG.I hG.R x2 (op53 hp0.1 hp0.2)) (by decide) ?_
    intro vg3 hg3
    have z4 : (((-1) : Int) ≤ vg3.toInt) ∧ (vg3.toInt ≤ 2) ∧ (((x2.toInt = 60) → (vg3.toInt = 0))) ∧ (((x2.toInt = 61) → (vg3.toInt = 1))) ∧ (((x2.toInt = 62) → (vg3.toInt = 2))) ∧ (((vg3.toInt = 0) → (x2.toInt = 60))) ∧ (((vg3.toInt = 1) → (x2.toInt = 61))) ∧ (((vg3.toInt = 2) → (x2.toInt = 62))) ∧ ((vg3.toInt = (-1)) ∨ (x2.toInt = 60) ∨ (x2.toInt = 61) ∨ (x2.toInt = 62)) := hg3
    exact ft_ret mi_k233 (by rfl) (hP vg3 (op138 z4.1 z4.2.1 z4.2.2.1 z4.2.2.2.1 z4.2.2.2.2.1 z4.2.2.2.2.2.1 z4.2.2.2.2.2.2.1 z4.2.2.2.2.2.2.2.1 z4.2.2.2.2.2.2.2.2))
  ·
    subst eg1
    have z5 : ¬ (((0 : Int) ≤ x2.toInt) ∧ (x2.toInt ≤ 255)) := hg1
    exact (op55 hp0.1 hp0.2 z5).elim
set_option maxRecDepth 100000 in
theorem ke229_1000014_l10 {i : Nat → Int32} {a : Nat → List Int32} {q : Nat → List Int64} {r : Nat → Nat} (hI : kI i a q) (hr : kr r) (x1 : Int32) (hp0 : ((0 : Int) ≤ x1.toInt) ∧ (x1.toInt ≤ 255)) : km 5 229 [.ref (mi_RO + 14), .int x1, .int 0] (ks i a q r) (kPI (ks i a q r) (fun v => (((-1) : Int) ≤ v.toInt) ∧ (v.toInt ≤ 2) ∧ (((x1.toInt = 60) → (v.toInt = 0))) ∧ (((x1.toInt = 61) → (v.toInt = 1))) ∧ (((x1.toInt = 62) → (v.toInt = 2))) ∧ (((v.toInt = 0) → (x1.toInt = 60))) ∧ (((v.toInt = 1) → (x1.toInt = 61))) ∧ (((v.toInt = 2) → (x1.toInt = 62))) ∧ ((v.toInt = (-1)) ∨ (x1.toInt = 60) ∨ (x1.toInt = 61) ∨ (x1.toInt = 62)))) := by
  have hG := kG_self kW0 hI hr
  refine km_ofPI (q := (mi_h229, mi_c229)) rfl (by decide) (Nat.le_of_ble_eq_true rfl) ?_
  intro P hP
  refine ft_go mi_k229 1 1 [(0, .ref (mi_RO + 14)), (1, .int x1), (2, .int 0)] [.ref (mi_RO + 14)] i a q r (by rfl) ?_
  refine ko_callPI mi_k229.1 (pc := 1) (ls := [(0, .ref (mi_RO + 14)), (1, .int x1), (2, .int 0)]) (st := [.ref (mi_RO + 14)]) (h := ks i a q r) (i := (.invokevirtual 492, 3, 231, 0, 9, 0, 192)) (mi_k229.2 _ _ (by rfl)) (ft_invS mi_pq231 (by rfl)) (cy := mi_c231) mi_pq231 rfl (kc231_S14 hG.I hG.R ) (by decide) ?_
  intro vg1 hg1
  rcases hg1 with ⟨eg1, hg1⟩ | ⟨eg1, hg1⟩
  ·
    subst eg1
    refine ft_go mi_k229 6 14 [(0, .ref (mi_RO + 14)), (1, .int x1), (2, .int 0)] [.ref (mi_RO + 14), .int 0, .int x1, .ref (mi_RO + 24)] i a q r (by rfl) ?_
    refine ko_callPI mi_k229.1 (pc := 14) (ls := [(0, .ref (mi_RO + 14)), (1, .int x1), (2, .int 0)]) (st := [.ref (mi_RO + 14), .int 0, .int x1, .ref (mi_RO + 24)]) (h := ks i a q r) (i := (.invokevirtual 505, 3, 227, 0, 9, 0, 193)) (mi_k229.2 _ _ (by rfl)) (ft_invS mi_pq227 (by rfl)) (cy := mi_c227) mi_pq227 rfl (ke227_1000014 hG.I hG.R ) (by decide) ?_
    intro vg2 hg2
    have z3 : vg2.toInt = 3 := hg2
    refine ko_eq (x1 := (17, [(0, .ref (mi_RO + 14)), (1, .int x1), (2, .int 0)], [.int 3, .int 0, .int x1, .ref (mi_RO + 24)], (0, 0), ks i a q r)) (by rw [(kj_eq (op70 z3) (by decide) : vg2 = 3)]) ?_
    refine ko_callPI mi_k229.1 (pc := 17) (ls := [(0, .ref (mi_RO + 14)), (1, .int x1), (2, .int 0)]) (st := [.int 3, .int 0, .int x1, .ref (mi_RO + 24)]) (h := ks i a q r) (i := (.invokestatic 637, 3, 233, 0, 9, 0, 194)) (mi_k229.2 _ _ (by rfl)) (ft_invS mi_pq233 (by rfl)) (cy := mi_c233) mi_pq233 rfl (ke233_1000024_l10_l23 hG.I hG.R x1 (op53 hp0.1 hp0.2)) (by decide) ?_
    intro vg4 hg4
    have z5 : (((-1) : Int) ≤ vg4.toInt) ∧ (vg4.toInt ≤ 2) ∧ (((x1.toInt = 60) → (vg4.toInt = 0))) ∧ (((x1.toInt = 61) → (vg4.toInt = 1))) ∧ (((x1.toInt = 62) → (vg4.toInt = 2))) ∧ (((vg4.toInt = 0) → (x1.toInt = 60))) ∧ (((vg4.toInt = 1) → (x1.toInt = 61))) ∧ (((vg4.toInt = 2) → (x1.toInt = 62))) ∧ ((vg4.toInt = (-1)) ∨ (x1.toInt = 60) ∨ (x1.toInt = 61) ∨ (x1.toInt = 62)) := hg4
    refine ft_go mi_k229 1 36 [(0, .ref (mi_RO + 14)), (1, .int x1), (2, .int 0)] [.int vg4] i a q r (by rfl) ?_
    exact ft_ret mi_k229 (by rfl) (hP vg4 (op138 z5.1 z5.2.1 z5.2.2.1 z5.2.2.2.1 z5.2.2.2.2.1 z5.2.2.2.2.2.1 z5.2.2.2.2.2.2.1 z5.2.2.2.2.2.2.2.1 z5.2.2.2.2.2.2.2.2))
  ·
    subst eg1
    have z6 : (2 : Int) ≤ 1 := hg1
    exact (op56 z6).elim
set_option maxRecDepth 100000 in
theorem ke228_1000014 {i : Nat → Int32} {a : Nat → List Int32} {q : Nat → List Int64} {r : Nat → Nat} (hI : kI i a q) (hr : kr r) (x1 : Int32) (hp0 : ((0 : Int) ≤ x1.toInt) ∧ (x1.toInt ≤ 255)) : km 7 228 [.ref (mi_RO + 14), .int x1] (ks i a q r) (kPI (ks i a q r) (fun v => (((-1) : Int) ≤ v.toInt) ∧ (v.toInt ≤ 2) ∧ (((x1.toInt = 60) → (v.toInt = 0))) ∧ (((x1.toInt = 61) → (v.toInt = 1))) ∧ (((x1.toInt = 62) → (v.toInt = 2))) ∧ (((v.toInt = 0) → (x1.toInt = 60))) ∧ (((v.toInt = 1) → (x1.toInt = 61))) ∧ (((v.toInt = 2) → (x1.toInt = 62))) ∧ ((v.toInt = (-1)) ∨ (x1.toInt = 60) ∨ (x1.toInt = 61) ∨ (x1.toInt = 62)))) := by
  have hG := kG_self kW0 hI hr
  refine km_ofPI (q := (mi_h228, mi_c228)) rfl (by decide) (Nat.le_of_ble_eq_true rfl) ?_
  intro P hP
  refine ft_go mi_k228 3 3 [(0, .ref (mi_RO + 14)), (1, .int x1)] [.int 0, .int x1, .ref (mi_RO + 14)] i a q r (by rfl) ?_
  refine ko_callPI mi_k228.1 (pc := 3) (ls := [(0, .ref (mi_RO + 14)), (1, .int x1)]) (st := [.int 0, .int x1, .ref (mi_RO + 14)]) (h := ks i a q r) (i := (.invokevirtual 633, 3, 229, 0, 9, 0, 191)) (mi_k228.2 _ _ (by rfl)) (ft_invS mi_pq229 (by rfl)) (cy := mi_c229) mi_pq229 rfl (ke229_1000014_l10 hG.I hG.R x1 (op53 hp0.1 hp0.2)) (by decide) ?_
  intro vg1 hg1
  have z2 : (((-1) : Int) ≤ vg1.toInt) ∧ (vg1.toInt ≤ 2) ∧ (((x1.toInt = 60) → (vg1.toInt = 0))) ∧ (((x1.toInt = 61) → (vg1.toInt = 1))) ∧ (((x1.toInt = 62) → (vg1.toInt = 2))) ∧ (((vg1.toInt = 0) → (x1.toInt = 60))) ∧ (((vg1.toInt = 1) → (x1.toInt = 61))) ∧ (((vg1.toInt = 2) → (x1.toInt = 62))) ∧ ((vg1.toInt = (-1)) ∨ (x1.toInt = 60) ∨ (x1.toInt = 61) ∨ (x1.toInt = 62)) := hg1
  exact ft_ret mi_k228 (by rfl) (hP vg1 (op138 z2.1 z2.2.1 z2.2.2.1 z2.2.2.2.1 z2.2.2.2.2.1 z2.2.2.2.2.2.1 z2.2.2.2.2.2.2.1 z2.2.2.2.2.2.2.2.1 z2.2.2.2.2.2.2.2.2))
def yw47_98_1000014 : kW := ([6274], [], [], [])
set_option maxRecDepth 100000 in
theorem ke47_98_1000014 {i : Nat → Int32} {a : Nat → List Int32} {q : Nat → List Int64} {r : Nat → Nat} (hI : kI i a q) (hr : kr r) (t : List Int32) (nn : Int32) (hT : a 99 = t) (hN : i 6273 = nn) (hX : kBy t) : km 9 47 [.ref 98, .ref (mi_RO + 14)] (ks i a q r) (kVI yw47_98_1000014 i a q r (fun v i1 a1 q1 r1 => (((v.toInt = (-1)) ∧ ((i1 6274).toInt = (i 6274).toInt)) ∨ (((i1 6274).toInt = ((i 6274).toInt + 1)) ∧ ((i 6274).toInt < (i 6273).toInt) ∧ ((i 6275).toInt = 0) ∧ ((v.toInt = 60) ∨ (v.toInt = 61) ∨ (v.toInt = 62)))) ∧ (v, i1 6274) = cOfP t nn oCmp (i 6274) (i 6275))) := by
  have hG := kG_self yw47_98_1000014 hI hr
  refine km_ofI (q := (mi_h47, mi_c47)) rfl (by decide) (Nat.le_of_ble_eq_true rfl) ?_
  intro P hP
  have hn1 : (i 6273).toInt = nn.toInt := congrArg Int32.toInt hN
  refine ft_go mi_k47 1 1 [(0, .ref 98), (1, .ref (mi_RO + 14))] [.ref 98] i a q r (by rfl) ?_
  refine ko_callPI mi_k47.1 (pc := 1) (ls := [(0, .ref 98), (1, .ref (mi_RO + 14))]) (st := [.ref 98]) (h := ks i a q r) (i := (.invokevirtual 46, 3, 45, 0, 9, 0, 184)) (mi_k47.2 _ _ (by rfl)) (ft_invS mi_pq45 (by rfl)) (cy := mi_c45) mi_pq45 rfl (ke45_98 hG.I hG.R t nn hT hN hX) (by decide) ?_
  intro vg2 hg2
  obtain ⟨hg2, og2⟩ := hg2
  have fi_6275 : ((0 : Int) ≤ (i 6275).toInt) ∧ ((i 6275).toInt ≤ 1) := hG.I.1 6275
  have fi_6274 : ((0 : Int) ≤ (i 6274).toInt) ∧ ((i 6274).toInt ≤ 120) := hG.I.1 6274
  have fi_6273 : ((0 : Int) ≤ (i 6273).toInt) ∧ ((i 6273).toInt ≤ 120) := hG.I.1 6273
  have z3 : (((-1) : Int) ≤ vg2.toInt) ∧ (vg2.toInt ≤ 255) ∧ ((vg2.toInt = (-1)) ∨ (((i 6275).toInt = 0) ∧ ((i 6274).toInt < (i 6273).toInt))) := hg2
  have q4 : vg2 = cHr t nn (i 6274) (i 6275) := og2
  have hv5 : vg2.toInt = (cHr t nn (i 6274) (i 6275)).toInt := congrArg Int32.toInt og2
  refine ft_go mi_k47 3 7 [(2, .int vg2), (0, .ref 98), (1, .ref (mi_RO + 14))] [.int (-1), .int vg2] i a q r (by rfl) ?_
  refine ft_if mi_k47 (vg2 == (-1)) 19 10 [(2, .int vg2), (0, .ref 98), (1, .ref (mi_RO + 14))] [] (by rfl) (fun c => ?_) (fun c => ?_)
  ·
    have c6 : vg2.toInt = ((-1) : Int32).toInt := kd_eq c; clear c
    refine ft_go mi_k47 1 20 [(2, .int vg2), (0, .ref 98), (1, .ref (mi_RO + 14))] [.int (-1)] i a q r (by rfl) ?_
    exact ft_ret mi_k47 (by rfl) (hP (-1) _ _ _ _ hG ⟨(op132 kopm1), (ofP_n (o := oCmp) (decide_eq_false (op133 c6 hv5 kopm1)))⟩)
  ·
    have c7 : vg2.toInt ≠ ((-1) : Int32).toInt := kd_eqF c; clear c
    have s8 : ((vg2.toUInt32 % 65536).toInt32).toInt = vg2.toInt := kd_i2c (op39 c7 z3.1 kopm1) (Int.le_trans (op40 z3.2.1) (by decide))
    refine ft_go mi_k47 3 13 [(2, .int vg2), (0, .ref 98), (1, .ref (mi_RO + 14))] [.int ((vg2.toUInt32 % 65536).toInt32), .ref (mi_RO + 14)] i a q r (by rfl) ?_
    refine ko_callPI mi_k47.1 (pc := 13) (ls := [(2, .int vg2), (0, .ref 98), (1, .ref (mi_RO + 14))]) (st := [.int ((vg2.toUInt32 % 65536).toInt32), .ref (mi_RO + 14)]) (h := ks i a q r) (i := (.invokevirtual 50, 3, 228, 0, 9, 0, 190)) (mi_k47.2 _ _ (by rfl)) (ft_invS mi_pq228 (by rfl)) (cy := mi_c228) mi_pq228 rfl (ke228_1000014 hG.I hG.R ((vg2.toUInt32 % 65536).toInt32) (op57 c7 s8 z3.1 z3.2.1 kopm1)) (by decide) ?_
    intro vg9 hg9
    have z10 : (((-1) : Int) ≤ vg9.toInt) ∧ (vg9.toInt ≤ 2) ∧ (((((vg2.toUInt32 % 65536).toInt32).toInt = 60) → (vg9.toInt = 0))) ∧ (((((vg2.toUInt32 % 65536).toInt32).toInt = 61) → (vg9.toInt = 1))) ∧ (((((vg2.toUInt32 % 65536).toInt32).toInt = 62) → (vg9.toInt = 2))) ∧ (((vg9.toInt = 0) → (((vg2.toUInt32 % 65536).toInt32).toInt = 60))) ∧ (((vg9.toInt = 1) → (((vg2.toUInt32 % 65536).toInt32).toInt = 61))) ∧ (((vg9.toInt = 2) → (((vg2.toUInt32 % 65536).toInt32).toInt = 62))) ∧ ((vg9.toInt = (-1)) ∨ (((vg2.toUInt32 % 65536).toInt32).toInt = 60) ∨ (((vg2.toUInt32 % 65536).toInt32).toInt = 61) ∨ (((vg2.toUInt32 % 65536).toInt32).toInt = 62)) := hg9
    refine ft_if mi_k47 (decide (0 ≤ vg9)) 21 19 [(2, .int vg2), (0, .ref 98), (1, .ref (mi_RO + 14))] [] (by rfl) (fun c => ?_) (fun c => ?_)
    ·
      have c11 : (0 : Int32).toInt ≤ vg9.toInt := kd_le c; clear c
      have s12 : ((i 6274) + 1).toInt = (i 6274).toInt + (1 : Int32).toInt := kd_add (op18 fi_6274.1 kop1) (op26 fi_6274.2 kop1)
      have hJ13 := kG_i hG 6274 rfl (v := ((i 6274) + 1)) ⟨(op20 fi_6274.1 s12 kop1), (op58 c7 fi_6273.2 s12 z3.1 z3.2.2 kopm1 kop1)⟩
      refine ft_go mi_k47 7 32 [(2, .int vg2), (0, .ref 98), (1, .ref (mi_RO + 14))] [.int vg2] (ku i 6274 ((i 6274) + 1)) a q r (by rfl) ?_
      exact ft_ret mi_k47 (by rfl) (hP vg2 _ _ _ _ hJ13 ⟨(op139 c11 c7 fi_6275.1 s12 s8 z10.2.1 z10.2.2.2.1 z10.2.2.2.2.1 z10.2.2.2.2.2.1 z10.2.2.2.2.2.2.1 z10.2.2.2.2.2.2.2.1 z3.1 z3.2.2 kop0 kopm1 kop1), (ofP_y (o := oCmp) (decide_eq_true (op140 c11 hv5 s8 z10.2.1 z10.2.2.2.1 z10.2.2.2.2.1 z10.2.2.2.2.2.1 z10.2.2.2.2.2.2.1 z10.2.2.2.2.2.2.2.1 kop0)) og2)⟩)
    ·
      have c14 : vg9.toInt < (0 : Int32).toInt := kd_leF c; clear c
      refine ft_go mi_k47 1 20 [(2, .int vg2), (0, .ref 98), (1, .ref (mi_RO + 14))] [.int (-1)] i a q r (by rfl) ?_
      exact ft_ret mi_k47 (by rfl) (hP (-1) _ _ _ _ hG ⟨(op132 kopm1), (ofP_n (o := oCmp) (decide_eq_false (op141 c14 hv5 s8 z10.2.2.1 z10.2.2.2.1 z10.2.2.2.2.1 kop0)))⟩)
def wP10 : kW := ([643, 6274, 6275], [11, 12], [], [])
def kMP10_54 (n : Nat) : Prop := ∀ (i : Nat → Int32) (a : Nat → List Int32) (q : Nat → List Int64) (r : Nat → Nat), kI i a q → kr r → ∀ (x1 : Int32), (((0 : Int) ≤ x1.toInt) ∧ ((x1.toInt + (n : Int)) = 6)) → ∀ (t : List Int32) (nn : Int32), a 99 = t → i 6273 = nn → r 2 = 10 → kBy t → km (6 * n + 10) 54 [.ref 98, .int x1] (ks i a q r) (kVN wP10 i a q r (fun i1 a1 q1 r1 => (True) ∧ (i1 6274, i1 6275, a1 11, a1 12, i1 643) = (cO t nn n) (i 6274, i 6275, a 11, a 12, i 643)))
def yw53_98_L10_L14 : kW := ([643, 6274, 6275], [11, 12], [], [])
def kMP10_53 (n : Nat) : Prop := ∀ (i : Nat → Int32) (a : Nat → List Int32) (q : Nat → List Int64) (r : Nat → Nat), kI i a q → kr r → ∀ (x1 : Int32), (((0 : Int) ≤ x1.toInt) ∧ ((x1.toInt + (n : Int)) = 6)) → ∀ (t : List Int32) (nn : Int32), a 99 = t → i 6273 = nn → r 2 = 10 → kBy t → km (6 * n + 11) 53 [.ref 98, .int x1] (ks i a q r) (kVN wP10 i a q r (fun i1 a1 q1 r1 => (True) ∧ (i1 6274, i1 6275, a1 11, a1 12, i1 643) = (cP3 t nn (cO t nn n)) (i 6274, i 6275, a 11, a 12, i 643)))
def yw52_98_L10_L14 : kW := ([643, 6274, 6275], [11, 12], [], [])
def kMP10_52 (n : Nat) : Prop := ∀ (i : Nat → Int32) (a : Nat → List Int32) (q : Nat → List Int64) (r : Nat → Nat), kI i a q → kr r → ∀ (x1 : Int32), (((0 : Int) ≤ x1.toInt) ∧ ((x1.toInt + (n : Int)) = 6)) → ∀ (t : List Int32) (nn : Int32), a 99 = t → i 6273 = nn → r 2 = 10 → kBy t → km (6 * n + 12) 52 [.ref 98, .int x1] (ks i a q r) (kVN wP10 i a q r (fun i1 a1 q1 r1 => (True) ∧ (i1 6274, i1 6275, a1 11, a1 12, i1 643) = (cP4 t nn (cO t nn n)) (i 6274, i 6275, a 11, a 12, i 643)))
def kMP10_51 (n : Nat) : Prop := ∀ (i : Nat → Int32) (a : Nat → List Int32) (q : Nat → List Int64) (r : Nat → Nat), kI i a q → kr r → ∀ (x1 : Int32), (((0 : Int) ≤ x1.toInt) ∧ ((x1.toInt + (n : Int)) = 6)) → ∀ (t : List Int32) (nn : Int32), a 99 = t → i 6273 = nn → r 2 = 10 → kBy t → km (6 * n + 13) 51 [.ref 98, .int x1] (ks i a q r) (kVN wP10 i a q r (fun i1 a1 q1 r1 => (True) ∧ (i1 6274, i1 6275, a1 11, a1 12, i1 643) = (cP5 t nn (cO t nn n)) (i 6274, i 6275, a 11, a 12, i 643)))
def yw50_98_L10_L7 : kW := ([643, 6274, 6275], [11, 12], [], [])
def kMP10_50 (n : Nat) : Prop := ∀ (i : Nat → Int32) (a : Nat → List Int32) (q : Nat → List Int64) (r : Nat → Nat), kI i a q → kr r → ∀ (x1 : Int32), (((0 : Int) ≤ x1.toInt) ∧ ((x1.toInt + (n : Int)) = 6)) → ∀ (t : List Int32) (nn : Int32), a 99 = t → i 6273 = nn → r 2 = 10 → kBy t → km (6 * n + 14) 50 [.ref 98, .int x1] (ks i a q r) (kVN wP10 i a q r (fun i1 a1 q1 r1 => (True) ∧ (i1 6274, i1 6275, a1 11, a1 12, i1 643) = (cP6 t nn (cO t nn n)) (i 6274, i 6275, a 11, a 12, i 643)))
def yw49_98_L10_L7 : kW := ([643, 6274, 6275], [11, 12], [], [])
def kMP10_49 (n : Nat) : Prop := ∀ (i : Nat → Int32) (a : Nat → List Int32) (q : Nat → List Int64) (r : Nat → Nat), kI i a q → kr r → ∀ (x1 : Int32), (((0 : Int) ≤ x1.toInt) ∧ ((x1.toInt + (n : Int)) = 6)) → ∀ (t : List Int32) (nn : Int32), a 99 = t → i 6273 = nn → r 2 = 10 → kBy t → km (6 * n + 15) 49 [.ref 98, .int x1] (ks i a q r) (kVN wP10 i a q r (fun i1 a1 q1 r1 => (True) ∧ (i1 6274, i1 6275, a1 11, a1 12, i1 643) = (cE t nn n) (i 6274, i 6275, a 11, a 12, i 643)))
set_option maxRecDepth 100000 in
theorem kMsP10_54 (n : Nat)  (ih : ∀ m, n = m + 1 → kMP10_49 m ∧ kMP10_54 m) : kMP10_54 n := by
  intro i a q r hI hr x1 hp0 t nn hT hN hL hX
  have hG := kG_self wP10 hI hr
  refine km_ofN (q := (mi_h54, mi_c54)) rfl (by decide) (Nat.le_of_ble_eq_true rfl) ?_
  intro P hP
  have hn0 : (0 : Int) ≤ (n : Int) := Int.natCast_nonneg n
  have hn1 : (i 6273).toInt = nn.toInt := congrArg Int32.toInt hN
  have eRr_2 : r 2 = 10 := hL
  refine ft_go mi_k54 1 1 [(0, .ref 98), (1, .int x1)] [.ref 98] i a q r (by rfl) ?_
  refine ko_callPI mi_k54.1 (pc := 1) (ls := [(0, .ref 98), (1, .int x1)]) (st := [.ref 98]) (h := ks i a q r) (i := (.invokevirtual 46, 3, 45, 0, 9, 0, 184)) (mi_k54.2 _ _ (by rfl)) (ft_invS mi_pq45 (by rfl)) (cy := mi_c45) mi_pq45 rfl (ke45_98 hG.I hG.R t nn hT hN hX) (kj_d3 (n := n) (c := 1) (o1 := 10) (by decide)) ?_
  intro vg2 hg2
  obtain ⟨hg2, og2⟩ := hg2
  have fi_6275 : ((0 : Int) ≤ (i 6275).toInt) ∧ ((i 6275).toInt ≤ 1) := hG.I.1 6275
  have fi_6274 : ((0 : Int) ≤ (i 6274).toInt) ∧ ((i 6274).toInt ≤ 120) := hG.I.1 6274
  have fi_6273 : ((0 : Int) ≤ (i 6273).toInt) ∧ ((i 6273).toInt ≤ 120) := hG.I.1 6273
  have z3 : (((-1) : Int) ≤ vg2.toInt) ∧ (vg2.toInt ≤ 255) ∧ ((vg2.toInt = (-1)) ∨ (((i 6275).toInt = 0) ∧ ((i 6274).toInt < (i 6273).toInt))) := hg2
  have q4 : vg2 = cHr t nn (i 6274) (i 6275) := og2
  have hv5 : vg2.toInt = (cHr t nn (i 6274) (i 6275)).toInt := congrArg Int32.toInt og2
  refine ft_go mi_k54 2 6 [(2, .int vg2), (0, .ref 98), (1, .int x1)] [.int vg2] i a q r (by rfl) ?_
  refine ko_callPI mi_k54.1 (pc := 6) (ls := [(2, .int vg2), (0, .ref 98), (1, .int x1)]) (st := [.int vg2]) (h := ks i a q r) (i := (.invokestatic 92, 3, 56, 0, 9, 0, 185)) (mi_k54.2 _ _ (by rfl)) (ft_invS mi_pq56 (by rfl)) (cy := mi_c56) mi_pq56 rfl (kc56 hG.I hG.R vg2) (kj_d3 (n := n) (c := 1) (o1 := 10) (by decide)) ?_
  intro vg6 hg6
  rcases hg6 with ⟨eg6, hg6⟩ | ⟨eg6, hg6⟩
  ·
    subst eg6
    have z7 : ((48 : Int) ≤ vg2.toInt) ∧ (vg2.toInt ≤ 57) := hg6
    refine ft_go mi_k54 2 13 [(2, .int vg2), (0, .ref 98), (1, .int x1)] [.ref 98] i a q r (by rfl) ?_
    refine ko_callN mi_k54.1 (pc := 13) (ls := [(2, .int vg2), (0, .ref 98), (1, .int x1)]) (st := [.ref 98]) (h := ks i a q r) (i := (.invokevirtual 95, 3, 55, 0, 9, 0, 186)) (mi_k54.2 _ _ (by rfl)) (ft_invS mi_pq55 (by rfl)) (cy := mi_c55) mi_pq55 rfl (ke55_98_L10 hG.I hG.R t nn hT hN eRr_2 hX) (kj_d3 (n := n) (c := 3) (o1 := 10) (by decide)) ?_
    intro ig8 ag8 qg8 rg8 kg8 hg8
    have hGg8 := kG_call hG kg8 (by decide +kernel)
    have eRrg8_2 : rg8 2 = 10 := (kg8.fr 2 rfl).trans eRr_2
    obtain ⟨hg8, og8⟩ := hg8
    exact ft_ret mi_k54 (by rfl) (hP  _ _ _ _ hGg8 ⟨trivial, (cPt_lv (cO_any t nn n) (fun nx => cPt_num (nx := nx) (op31 hv5 z7.1) (op32 hv5 z7.2) og8))⟩)
  ·
    subst eg6
    have z9 : ¬ (((48 : Int) ≤ vg2.toInt) ∧ (vg2.toInt ≤ 57)) := hg6
    refine ft_go mi_k54 3 20 [(2, .int vg2), (0, .ref 98), (1, .int x1)] [.ref (mi_RO + 10), .ref 98] i a q r (by rfl) ?_
    refine ko_callI mi_k54.1 (pc := 20) (ls := [(2, .int vg2), (0, .ref 98), (1, .int x1)]) (st := [.ref (mi_RO + 10), .ref 98]) (h := ks i a q r) (i := (.invokevirtual 78, 3, 47, 0, 9, 0, 189)) (mi_k54.2 _ _ (by rfl)) (ft_invS mi_pq47 (by rfl)) (cy := mi_c47) mi_pq47 rfl (ke47_98_1000010 hG.I hG.R t nn hT hN hX) (kj_d3 (n := n) (c := 9) (o1 := 10) (by decide)) ?_
    intro vg10 ig10 ag10 qg10 rg10 kg10 hg10
    have hGg10 := kG_call hG kg10 (by decide +kernel)
    have eRrg10_2 : rg10 2 = 10 := (kg10.fr 2 rfl).trans eRr_2
    obtain ⟨hg10, og10⟩ := hg10
    have fig10_6274 : ((0 : Int) ≤ (ig10 6274).toInt) ∧ ((ig10 6274).toInt ≤ 120) := hGg10.I.1 6274
    have z11 : ((vg10.toInt = (-1)) ∧ ((ig10 6274).toInt = (i 6274).toInt)) ∨ (((ig10 6274).toInt = ((i 6274).toInt + 1)) ∧ ((i 6274).toInt < (i 6273).toInt) ∧ ((i 6275).toInt = 0) ∧ ((vg10.toInt = 119) ∨ (vg10.toInt = 112) ∨ (vg10.toInt = 104) ∨ (vg10.toInt = 110) ∨ (vg10.toInt = 111) ∨ (vg10.toInt = 100))) := hg10
    have ho12 : vg10.toInt = (-1) ∨ vg10.toInt = (cHr t nn (i 6274) (i 6275)).toInt := tOf_v og10
    refine ft_go mi_k54 3 26 [(3, .int vg10), (2, .int vg2), (0, .ref 98), (1, .int x1)] [.int (-1), .int vg10] ig10 ag10 qg10 rg10 (by rfl) ?_
    refine ft_if mi_k54 (vg10 == (-1)) 46 29 [(3, .int vg10), (2, .int vg2), (0, .ref 98), (1, .int x1)] [] (by rfl) (fun c => ?_) (fun c => ?_)
    ·
      have c13 : vg10.toInt = ((-1) : Int32).toInt := kd_eq c; clear c
      refine ft_go mi_k54 2 49 [(3, .int vg10), (2, .int vg2), (0, .ref 98), (1, .int x1)] [.int 6, .int x1] ig10 ag10 qg10 rg10 (by rfl) ?_
      refine ft_if mi_k54 (decide (6 ≤ x1)) 62 52 [(3, .int vg10), (2, .int vg2), (0, .ref 98), (1, .int x1)] [] (by rfl) (fun c => ?_) (fun c => ?_)
      ·
        have c14 : (6 : Int32).toInt ≤ x1.toInt := kd_le c; clear c
        have hJ15 := kG_i hGg10 6275 rfl (v := 1) ⟨(op62 kop1), (op63 kop1)⟩
        refine ft_go mi_k54 3 67 [(3, .int vg10), (2, .int vg2), (0, .ref 98), (1, .int x1)] [] (ku ig10 6275 1) ag10 qg10 rg10 (by rfl) ?_
        have tb16 : (ig10 6274, (1 : Int32), ag10 11, ag10 12, ig10 643) = cBad (ig10 6274, ig10 6275, ag10 11, ag10 12, ig10 643) := (tBad rfl rfl (kT3 rfl rfl rfl))
        have to17 : (vg10, (ig10 6274, ig10 6275, ag10 11, ag10 12, ig10 643)) = cOf t nn oNam (i 6274, i 6275, a 11, a 12, i 643) := (tOf og10 (kg10.fi 6275 rfl) (kT3 (kg10.fa 11 rfl) (kg10.fa 12 rfl) (kg10.fi 643 rfl)))
        have te18 : (ig10 6274, ig10 6275, ag10 11, ag10 12, ig10 643) = (i 6274, i 6275, a 11, a 12, i 643) := cOf_no to17 (op64 c13 kopm1) oNam_ne
        have tp19 : (ig10 6274, (1 : Int32), ag10 11, ag10 12, ig10 643) = cPart t nn none (i 6274, i 6275, a 11, a 12, i 643) := cPt_non (op35 hv5 z9) to17 (op64 c13 kopm1) (tBad2 te18 tb16)
        exact ft_ret mi_k54 (by rfl) (hP  _ _ _ _ hJ15 ⟨trivial, (tp19.trans (congrFun (cO_z (kj_n0 (op65 c14 hp0.2 kop6))).symm _))⟩)
      ·
        have c20 : x1.toInt < (6 : Int32).toInt := kd_leF c; clear c
        obtain ⟨m, hm, hmI⟩ := kj_pred (op66 c20 hp0.2 kop6)
        have hh21 : (cHr t nn (ig10 6274) (ig10 6275)).toInt = (cHr t nn (i 6274) (i 6275)).toInt := congrArg Int32.toInt (kHr_c (t := t) (n := nn) (kj_v (op67 c13 z11 kopm1)) (kg10.fi 6275 rfl))
        refine ft_go mi_k54 2 55 [(3, .int vg10), (2, .int vg2), (0, .ref 98), (1, .int x1)] [.ref (mi_RO + 11), .ref 98] ig10 ag10 qg10 rg10 (by rfl) ?_
        refine ko_callI mi_k54.1 (pc := 55) (ls := [(3, .int vg10), (2, .int vg2), (0, .ref 98), (1, .int x1)]) (st := [.ref (mi_RO + 11), .ref 98]) (h := ks ig10 ag10 qg10 rg10) (i := (.invokevirtual 78, 3, 47, 0, 9, 0, 189)) (mi_k54.2 _ _ (by rfl)) (ft_invS mi_pq47 (by rfl)) (cy := mi_c47) mi_pq47 rfl (ke47_98_1000011 hGg10.I hGg10.R t nn ((kg10.fa 99 rfl).trans hT) ((kg10.fi 6273 rfl).trans hN) hX) (kj_d3 (n := n) (c := 9) (o1 := 10) (by decide)) ?_
        intro vg22 ig22 ag22 qg22 rg22 kg22 hg22
        have hGg22 := kG_call hGg10 kg22 (by decide +kernel)
        have eRrg22_2 : rg22 2 = 10 := (kg22.fr 2 rfl).trans eRrg10_2
        obtain ⟨hg22, og22⟩ := hg22
        have fig22_6274 : ((0 : Int) ≤ (ig22 6274).toInt) ∧ ((ig22 6274).toInt ≤ 120) := hGg22.I.1 6274
        have fig10_6273 : ((0 : Int) ≤ (ig10 6273).toInt) ∧ ((ig10 6273).toInt ≤ 120) := hGg10.I.1 6273
        have efig10_6273 : (ig10 6273).toInt = (i 6273).toInt := kg10.ti 6273 rfl
        have fig10_6275 : ((0 : Int) ≤ (ig10 6275).toInt) ∧ ((ig10 6275).toInt ≤ 1) := hGg10.I.1 6275
        have efig10_6275 : (ig10 6275).toInt = (i 6275).toInt := kg10.ti 6275 rfl
        have z23 : ((vg22.toInt = (-1)) ∧ ((ig22 6274).toInt = (ig10 6274).toInt)) ∨ (((ig22 6274).toInt = ((ig10 6274).toInt + 1)) ∧ ((ig10 6274).toInt < (ig10 6273).toInt) ∧ ((ig10 6275).toInt = 0) ∧ ((vg22.toInt = 40) ∨ (vg22.toInt = 33) ∨ (vg22.toInt = 45))) := hg22
        have ho24 : vg22.toInt = (-1) ∨ vg22.toInt = (cHr t nn (ig10 6274) (ig10 6275)).toInt := tOf_v og22
        refine ft_go mi_k54 1 59 [(3, .int vg10), (2, .int vg2), (0, .ref 98), (1, .int x1)] [.int (-1), .int vg22] ig22 ag22 qg22 rg22 (by rfl) ?_
        refine ft_if mi_k54 (vg22 != (-1)) 68 62 [(3, .int vg10), (2, .int vg2), (0, .ref 98), (1, .int x1)] [] (by rfl) (fun c => ?_) (fun c => ?_)
        ·
          have c25 : vg22.toInt ≠ ((-1) : Int32).toInt := kd_ne c; clear c
          refine ft_go mi_k54 2 71 [(3, .int vg10), (2, .int vg2), (0, .ref 98), (1, .int x1)] [.int 40, .int vg2] ig22 ag22 qg22 rg22 (by rfl) ?_
          refine ft_if mi_k54 (vg2 != 40) 96 74 [(3, .int vg10), (2, .int vg2), (0, .ref 98), (1, .int x1)] [] (by rfl) (fun c => ?_) (fun c => ?_)
          ·
            have c26 : vg2.toInt ≠ (40 : Int32).toInt := kd_ne c; clear c
            have s27 : (x1 + 1).toInt = x1.toInt + (1 : Int32).toInt := kd_add (op18 hp0.1 kop1) (op79 hn0 hp0.2 kop1)
            refine ft_go mi_k54 4 100 [(3, .int vg10), (2, .int vg2), (0, .ref 98), (1, .int x1)] [.int (x1 + 1), .ref 98] ig22 ag22 qg22 rg22 (by rfl) ?_
            refine ko_callN mi_k54.1 (pc := 100) (ls := [(3, .int vg10), (2, .int vg2), (0, .ref 98), (1, .int x1)]) (st := [.int (x1 + 1), .ref 98]) (h := ks ig22 ag22 qg22 rg22) (i := (.invokevirtual 87, 3, 54, 0, 9, 0, 183)) (mi_k54.2 _ _ (by rfl)) (ft_invS mi_pq54 (by rfl)) (cy := mi_c54) mi_pq54 rfl ((ih m hm).2 _ _ _ _ hGg22.I hGg22.R (x1 + 1) (op80 hmI hp0.1 hp0.2 s27 kop1) t nn (((kg22.fa 99 rfl).trans (kg10.fa 99 rfl)).trans hT) (((kg22.fi 6273 rfl).trans (kg10.fi 6273 rfl)).trans hN) eRrg22_2 hX) (kj_d2 (n := n) (m := m) (o := 10) (o1 := 10) hm (by decide)) ?_
            intro ig28 ag28 qg28 rg28 kg28 hg28
            have hGg28 := kG_call hGg22 kg28 (by decide +kernel)
            have eRrg28_2 : rg28 2 = 10 := (kg28.fr 2 rfl).trans eRrg22_2
            obtain ⟨hg28, og28⟩ := hg28
            refine ft_go mi_k54 2 107 [(3, .int vg10), (2, .int vg2), (0, .ref 98), (1, .int x1)] [.ref (rg28 2)] ig28 ag28 qg28 rg28 (by rfl) ?_
            refine ko_eq (x1 := (107, [(3, .int vg10), (2, .int vg2), (0, .ref 98), (1, .int x1)], [.ref 10], (0, 0), ks ig28 ag28 qg28 rg28)) (by rw [eRrg28_2]) ?_
            refine ft_go mi_k54 2 110 [(3, .int vg10), (2, .int vg2), (0, .ref 98), (1, .int x1)] [.int 45, .int vg2, .ref 10] ig28 ag28 qg28 rg28 (by rfl) ?_
            refine ft_if mi_k54 (vg2 != 45) 118 113 [(3, .int vg10), (2, .int vg2), (0, .ref 98), (1, .int x1)] [.ref 10] (by rfl) (fun c => ?_) (fun c => ?_)
            ·
              have c29 : vg2.toInt ≠ (45 : Int32).toInt := kd_ne c; clear c
              refine ft_go mi_k54 2 120 [(3, .int vg10), (2, .int vg2), (0, .ref 98), (1, .int x1)] [.int 0, .int vg2, .ref 10] ig28 ag28 qg28 rg28 (by rfl) ?_
              refine ko_callI mi_k54.1 (pc := 120) (ls := [(3, .int vg10), (2, .int vg2), (0, .ref 98), (1, .int x1)]) (st := [.int 0, .int vg2, .ref 10]) (h := ks ig28 ag28 qg28 rg28) (i := (.invokevirtual 60, 3, 17, 0, 9, 0, 187)) (mi_k54.2 _ _ (by rfl)) (ft_invS mi_pq17 (by rfl)) (cy := mi_c17) mi_pq17 rfl (kf17_10 hGg28.I hGg28.R vg2 0) (kj_d3 (n := n) (c := 1) (o1 := 10) (by decide)) ?_
              intro vg30 ig30 ag30 qg30 rg30 kg30 hg30
              have hGg30 := kG_call hGg28 kg30 (by decide +kernel)
              have eRrg30_2 : rg30 2 = 10 := (kg30.fr 2 rfl).trans eRrg28_2
              obtain ⟨hg30, og30⟩ := hg30
              have fig28_643 : ((0 : Int) ≤ (ig28 643).toInt) ∧ ((ig28 643).toInt ≤ 121) := hGg28.I.1 643
              have fig30_643 : ((0 : Int) ≤ (ig30 643).toInt) ∧ ((ig30 643).toInt ≤ 121) := hGg30.I.1 643
              have z31 : (((ig28 643).toInt ≤ 120) ∧ ((ig30 643).toInt = ((ig28 643).toInt + 1))) ∨ (((121 : Int) ≤ (ig28 643).toInt) ∧ ((ig30 643).toInt = (ig28 643).toInt)) := hg30
              refine ft_go mi_k54 1 124 [(3, .int vg10), (2, .int vg2), (0, .ref 98), (1, .int x1)] [] ig30 ag30 qg30 rg30 (by rfl) ?_
              have to32 : (vg10, (ig10 6274, ig10 6275, ag10 11, ag10 12, ig10 643)) = cOf t nn oNam (i 6274, i 6275, a 11, a 12, i 643) := (tOf og10 (kg10.fi 6275 rfl) (kT3 (kg10.fa 11 rfl) (kg10.fa 12 rfl) (kg10.fi 643 rfl)))
              have te33 : (ig10 6274, ig10 6275, ag10 11, ag10 12, ig10 643) = (i 6274, i 6275, a 11, a 12, i 643) := cOf_no to32 (op64 c13 kopm1) oNam_ne
              have to34 : (vg22, (ig22 6274, ig22 6275, ag22 11, ag22 12, ig22 643)) = cOf t nn oOpn (ig10 6274, ig10 6275, ag10 11, ag10 12, ig10 643) := (tOf og22 (kg22.fi 6275 rfl) (kT3 (kg22.fa 11 rfl) (kg22.fa 12 rfl) (kg22.fi 643 rfl)))
              have tx35 : vg2 = (if vg22.toInt = 45 then (126 : Int32) else vg22) := ((kj_v (op82 c25 hh21 ho24 hv5 z3.1 kopm1)).trans (if_neg (op83 c29 hh21 ho24 hv5 z23 kop45)).symm)
              have to36 : (ig28 6274, ig28 6275, ag28 11, ag28 12, ig28 643) = cO t nn m (ig22 6274, ig22 6275, ag22 11, ag22 12, ig22 643) := og28
              have to37 : (ig30 6274, ig30 6275, ag30 11, ag30 12, ig30 643) = cAdd vg2 0 (ig28 6274, ig28 6275, ag28 11, ag28 12, ig28 643) := (tAdd og30.1 (kg30.fi 6274 rfl) (kg30.fi 6275 rfl))
              have tp38 : (ig30 6274, ig30 6275, ag30 11, ag30 12, ig30 643) = cPart t nn (some (cO t nn m)) (i 6274, i 6275, a 11, a 12, i 643) := cPt_un (sub := cO t nn m) (op81 c25 hh21 ho24 hv5 z23 z9 kopm1) to32 (op64 c13 kopm1) te33 to34 (op84 c25 z23 kopm1) (op85 c26 c29 hh21 ho24 hv5 z23 kop40 kop45) to36 tx35 to37
              exact ft_ret mi_k54 (by rfl) (hP  _ _ _ _ hGg30 ⟨trivial, (tp38.trans (congrFun (cO_s hm).symm _))⟩)
            ·
              have c39 : vg2.toInt = (45 : Int32).toInt := kd_neF c; clear c
              refine ft_go mi_k54 3 120 [(3, .int vg10), (2, .int vg2), (0, .ref 98), (1, .int x1)] [.int 0, .int 126, .ref 10] ig28 ag28 qg28 rg28 (by rfl) ?_
              refine ko_callI mi_k54.1 (pc := 120) (ls := [(3, .int vg10), (2, .int vg2), (0, .ref 98), (1, .int x1)]) (st := [.int 0, .int 126, .ref 10]) (h := ks ig28 ag28 qg28 rg28) (i := (.invokevirtual 60, 3, 17, 0, 9, 0, 187)) (mi_k54.2 _ _ (by rfl)) (ft_invS mi_pq17 (by rfl)) (cy := mi_c17) mi_pq17 rfl (kf17_10 hGg28.I hGg28.R 126 0) (kj_d3 (n := n) (c := 1) (o1 := 10) (by decide)) ?_
              intro vg40 ig40 ag40 qg40 rg40 kg40 hg40
              have hGg40 := kG_call hGg28 kg40 (by decide +kernel)
              have eRrg40_2 : rg40 2 = 10 := (kg40.fr 2 rfl).trans eRrg28_2
              obtain ⟨hg40, og40⟩ := hg40
              have fig28_643 : ((0 : Int) ≤ (ig28 643).toInt) ∧ ((ig28 643).toInt ≤ 121) := hGg28.I.1 643
              have fig40_643 : ((0 : Int) ≤ (ig40 643).toInt) ∧ ((ig40 643).toInt ≤ 121) := hGg40.I.1 643
              have z41 : (((ig28 643).toInt ≤ 120) ∧ ((ig40 643).toInt = ((ig28 643).toInt + 1))) ∨ (((121 : Int) ≤ (ig28 643).toInt) ∧ ((ig40 643).toInt = (ig28 643).toInt)) := hg40
              refine ft_go mi_k54 1 124 [(3, .int vg10), (2, .int vg2), (0, .ref 98), (1, .int x1)] [] ig40 ag40 qg40 rg40 (by rfl) ?_
              have to42 : (vg10, (ig10 6274, ig10 6275, ag10 11, ag10 12, ig10 643)) = cOf t nn oNam (i 6274, i 6275, a 11, a 12, i 643) := (tOf og10 (kg10.fi 6275 rfl) (kT3 (kg10.fa 11 rfl) (kg10.fa 12 rfl) (kg10.fi 643 rfl)))
              have te43 : (ig10 6274, ig10 6275, ag10 11, ag10 12, ig10 643) = (i 6274, i 6275, a 11, a 12, i 643) := cOf_no to42 (op64 c13 kopm1) oNam_ne
              have to44 : (vg22, (ig22 6274, ig22 6275, ag22 11, ag22 12, ig22 643)) = cOf t nn oOpn (ig10 6274, ig10 6275, ag10 11, ag10 12, ig10 643) := (tOf og22 (kg22.fi 6275 rfl) (kT3 (kg22.fa 11 rfl) (kg22.fa 12 rfl) (kg22.fi 643 rfl)))
              have tx45 : (126 : Int32) = (if vg22.toInt = 45 then (126 : Int32) else vg22) := (if_pos (op87 c25 c39 hh21 ho24 hv5 z23 kopm1 kop45)).symm
              have to46 : (ig28 6274, ig28 6275, ag28 11, ag28 12, ig28 643) = cO t nn m (ig22 6274, ig22 6275, ag22 11, ag22 12, ig22 643) := og28
              have to47 : (ig40 6274, ig40 6275, ag40 11, ag40 12, ig40 643) = cAdd (126 : Int32) 0 (ig28 6274, ig28 6275, ag28 11, ag28 12, ig28 643) := (tAdd og40.1 (kg40.fi 6274 rfl) (kg40.fi 6275 rfl))
              have tp48 : (ig40 6274, ig40 6275, ag40 11, ag40 12, ig40 643) = cPart t nn (some (cO t nn m)) (i 6274, i 6275, a 11, a 12, i 643) := cPt_un (sub := cO t nn m) (op86 c39 hv5 kop45) to42 (op64 c13 kopm1) te43 to44 (op84 c25 z23 kopm1) (op88 c25 c39 hh21 ho24 hv5 kopm1 kop45) to46 tx45 to47
              exact ft_ret mi_k54 (by rfl) (hP  _ _ _ _ hGg40 ⟨trivial, (tp48.trans (congrFun (cO_s hm).symm _))⟩)
          ·
            have c49 : vg2.toInt = (40 : Int32).toInt := kd_neF c; clear c
            have s50 : (x1 + 1).toInt = x1.toInt + (1 : Int32).toInt := kd_add (op18 hp0.1 kop1) (op79 hn0 hp0.2 kop1)
            refine ft_go mi_k54 4 78 [(3, .int vg10), (2, .int vg2), (0, .ref 98), (1, .int x1)] [.int (x1 + 1), .ref 98] ig22 ag22 qg22 rg22 (by rfl) ?_
            refine ko_callN mi_k54.1 (pc := 78) (ls := [(3, .int vg10), (2, .int vg2), (0, .ref 98), (1, .int x1)]) (st := [.int (x1 + 1), .ref 98]) (h := ks ig22 ag22 qg22 rg22) (i := (.invokevirtual 56, 3, 49, 0, 9, 0, 178)) (mi_k54.2 _ _ (by rfl)) (ft_invS mi_pq49 (by rfl)) (cy := mi_c49) mi_pq49 rfl ((ih m hm).1 _ _ _ _ hGg22.I hGg22.R (x1 + 1) (op80 hmI hp0.1 hp0.2 s50 kop1) t nn (((kg22.fa 99 rfl).trans (kg10.fa 99 rfl)).trans hT) (((kg22.fi 6273 rfl).trans (kg10.fi 6273 rfl)).trans hN) eRrg22_2 hX) (kj_d2 (n := n) (m := m) (o := 15) (o1 := 10) hm (by decide)) ?_
            intro ig51 ag51 qg51 rg51 kg51 hg51
            have hGg51 := kG_call hGg22 kg51 (by decide +kernel)
            have eRrg51_2 : rg51 2 = 10 := (kg51.fr 2 rfl).trans eRrg22_2
            obtain ⟨hg51, og51⟩ := hg51
            refine ft_go mi_k54 2 84 [(3, .int vg10), (2, .int vg2), (0, .ref 98), (1, .int x1)] [.int 41, .ref 98] ig51 ag51 qg51 rg51 (by rfl) ?_
            refine ko_callI mi_k54.1 (pc := 84) (ls := [(3, .int vg10), (2, .int vg2), (0, .ref 98), (1, .int x1)]) (st := [.int 41, .ref 98]) (h := ks ig51 ag51 qg51 rg51) (i := (.invokevirtual 39, 3, 46, 0, 9, 0, 200)) (mi_k54.2 _ _ (by rfl)) (ft_invS mi_pq46 (by rfl)) (cy := mi_c46) mi_pq46 rfl (ke46_98 hGg51.I hGg51.R 41 (op94 kop41) t nn ((((kg51.fa 99 rfl).trans (kg22.fa 99 rfl)).trans (kg10.fa 99 rfl)).trans hT) (((kg51.fi 6273 rfl).trans ((kg22.fi 6273 rfl).trans (kg10.fi 6273 rfl))).trans hN) hX) (kj_d3 (n := n) (c := 3) (o1 := 10) (by decide)) ?_
            intro vg52 ig52 ag52 qg52 rg52 kg52 hg52
            have hGg52 := kG_call hGg51 kg52 (by decide +kernel)
            have eRrg52_2 : rg52 2 = 10 := (kg52.fr 2 rfl).trans eRrg51_2
            obtain ⟨hg52, og52⟩ := hg52
            have fig52_6274 : ((0 : Int) ≤ (ig52 6274).toInt) ∧ ((ig52 6274).toInt ≤ 120) := hGg52.I.1 6274
            have fig51_6274 : ((0 : Int) ≤ (ig51 6274).toInt) ∧ ((ig51 6274).toInt ≤ 120) := hGg51.I.1 6274
            have fig51_6273 : ((0 : Int) ≤ (ig51 6273).toInt) ∧ ((ig51 6273).toInt ≤ 120) := hGg51.I.1 6273
            have fig22_6273 : ((0 : Int) ≤ (ig22 6273).toInt) ∧ ((ig22 6273).toInt ≤ 120) := hGg22.I.1 6273
            have efig22_6273 : (ig22 6273).toInt = (ig10 6273).toInt := kg22.ti 6273 rfl
            have efig51_6273 : (ig51 6273).toInt = (ig22 6273).toInt := kg51.ti 6273 rfl
            have fig51_6275 : ((0 : Int) ≤ (ig51 6275).toInt) ∧ ((ig51 6275).toInt ≤ 1) := hGg51.I.1 6275
            have z53 : ((vg52.toInt = 1) ∧ ((ig52 6274).toInt = ((ig51 6274).toInt + 1)) ∧ ((ig51 6274).toInt < (ig51 6273).toInt) ∧ ((ig51 6275).toInt = 0)) ∨ ((vg52.toInt = 0) ∧ ((ig52 6274).toInt = (ig51 6274).toInt)) := hg52
            refine ft_if mi_k54 (vg52 != 0) 95 90 [(3, .int vg10), (2, .int vg2), (0, .ref 98), (1, .int x1)] [] (by rfl) (fun c => ?_) (fun c => ?_)
            ·
              have c54 : vg52.toInt ≠ (0 : Int32).toInt := kd_ne c; clear c
              have to55 : (vg10, (ig10 6274, ig10 6275, ag10 11, ag10 12, ig10 643)) = cOf t nn oNam (i 6274, i 6275, a 11, a 12, i 643) := (tOf og10 (kg10.fi 6275 rfl) (kT3 (kg10.fa 11 rfl) (kg10.fa 12 rfl) (kg10.fi 643 rfl)))
              have te56 : (ig10 6274, ig10 6275, ag10 11, ag10 12, ig10 643) = (i 6274, i 6275, a 11, a 12, i 643) := cOf_no to55 (op64 c13 kopm1) oNam_ne
              have to57 : (vg22, (ig22 6274, ig22 6275, ag22 11, ag22 12, ig22 643)) = cOf t nn oOpn (ig10 6274, ig10 6275, ag10 11, ag10 12, ig10 643) := (tOf og22 (kg22.fi 6275 rfl) (kT3 (kg22.fa 11 rfl) (kg22.fa 12 rfl) (kg22.fi 643 rfl)))
              have tt58 : (vg52, (ig52 6274, ig52 6275, ag52 11, ag52 12, ig52 643)) = cTk t nn 41 (ig51 6274, ig51 6275, ag51 11, ag51 12, ig51 643) := (tTk og52 (kg52.fi 6275 rfl) (kT3 (kg52.fa 11 rfl) (kg52.fa 12 rfl) (kg52.fi 643 rfl)))
              have tn59 : (ig52 6274, ig52 6275, ag52 11, ag52 12, ig52 643) = cEnd (cTk t nn 41 (ig51 6274, ig51 6275, ag51 11, ag51 12, ig51 643)) := cEn_y tt58 (op96 c54 z53 kop0)
              have to60 : (ig51 6274, ig51 6275, ag51 11, ag51 12, ig51 643) = cEit t nn (cO t nn m) (ig22 6274, ig22 6275, ag22 11, ag22 12, ig22 643) := og51
              have tp61 : (ig52 6274, ig52 6275, ag52 11, ag52 12, ig52 643) = cPart t nn (some (cO t nn m)) (i 6274, i 6275, a 11, a 12, i 643) := cPt_par (sub := cO t nn m) (op95 c49 hv5 kop40) to55 (op64 c13 kopm1) te56 to57 (op97 c25 c49 hh21 ho24 hv5 z23 kopm1 kop40) to60 tn59
              exact ft_ret mi_k54 (by rfl) (hP  _ _ _ _ hGg52 ⟨trivial, (tp61.trans (congrFun (cO_s hm).symm _))⟩)
            ·
              have c62 : vg52.toInt = (0 : Int32).toInt := kd_neF c; clear c
              have hJ63 := kG_i hGg52 6275 rfl (v := 1) ⟨(op62 kop1), (op63 kop1)⟩
              refine ft_go mi_k54 3 95 [(3, .int vg10), (2, .int vg2), (0, .ref 98), (1, .int x1)] [] (ku ig52 6275 1) ag52 qg52 rg52 (by rfl) ?_
              have to64 : (vg10, (ig10 6274, ig10 6275, ag10 11, ag10 12, ig10 643)) = cOf t nn oNam (i 6274, i 6275, a 11, a 12, i 643) := (tOf og10 (kg10.fi 6275 rfl) (kT3 (kg10.fa 11 rfl) (kg10.fa 12 rfl) (kg10.fi 643 rfl)))
              have te65 : (ig10 6274, ig10 6275, ag10 11, ag10 12, ig10 643) = (i 6274, i 6275, a 11, a 12, i 643) := cOf_no to64 (op64 c13 kopm1) oNam_ne
              have to66 : (vg22, (ig22 6274, ig22 6275, ag22 11, ag22 12, ig22 643)) = cOf t nn oOpn (ig10 6274, ig10 6275, ag10 11, ag10 12, ig10 643) := (tOf og22 (kg22.fi 6275 rfl) (kT3 (kg22.fa 11 rfl) (kg22.fa 12 rfl) (kg22.fi 643 rfl)))
              have tt67 : (vg52, (ig52 6274, ig52 6275, ag52 11, ag52 12, ig52 643)) = cTk t nn 41 (ig51 6274, ig51 6275, ag51 11, ag51 12, ig51 643) := (tTk og52 (kg52.fi 6275 rfl) (kT3 (kg52.fa 11 rfl) (kg52.fa 12 rfl) (kg52.fi 643 rfl)))
              have tb68 : (ig52 6274, (1 : Int32), ag52 11, ag52 12, ig52 643) = cBad (ig52 6274, ig52 6275, ag52 11, ag52 12, ig52 643) := (tBad rfl rfl (kT3 rfl rfl rfl))
              have tn69 : (ig52 6274, (1 : Int32), ag52 11, ag52 12, ig52 643) = cEnd (cTk t nn 41 (ig51 6274, ig51 6275, ag51 11, ag51 12, ig51 643)) := cEn_n tt67 (op98 c62 kop0) tb68
              have to70 : (ig51 6274, ig51 6275, ag51 11, ag51 12, ig51 643) = cEit t nn (cO t nn m) (ig22 6274, ig22 6275, ag22 11, ag22 12, ig22 643) := og51
              have tp71 : (ig52 6274, (1 : Int32), ag52 11, ag52 12, ig52 643) = cPart t nn (some (cO t nn m)) (i 6274, i 6275, a 11, a 12, i 643) := cPt_par (sub := cO t nn m) (op95 c49 hv5 kop40) to64 (op64 c13 kopm1) te65 to66 (op97 c25 c49 hh21 ho24 hv5 z23 kopm1 kop40) to70 tn69
              exact ft_ret mi_k54 (by rfl) (hP  _ _ _ _ hJ63 ⟨trivial, (tp71.trans (congrFun (cO_s hm).symm _))⟩)
        ·
          have c72 : vg22.toInt = ((-1) : Int32).toInt := kd_neF c; clear c
          have hJ73 := kG_i hGg22 6275 rfl (v := 1) ⟨(op62 kop1), (op63 kop1)⟩
          refine ft_go mi_k54 3 67 [(3, .int vg10), (2, .int vg2), (0, .ref 98), (1, .int x1)] [] (ku ig22 6275 1) ag22 qg22 rg22 (by rfl) ?_
          have to74 : (vg10, (ig10 6274, ig10 6275, ag10 11, ag10 12, ig10 643)) = cOf t nn oNam (i 6274, i 6275, a 11, a 12, i 643) := (tOf og10 (kg10.fi 6275 rfl) (kT3 (kg10.fa 11 rfl) (kg10.fa 12 rfl) (kg10.fi 643 rfl)))
          have te75 : (ig10 6274, ig10 6275, ag10 11, ag10 12, ig10 643) = (i 6274, i 6275, a 11, a 12, i 643) := cOf_no to74 (op64 c13 kopm1) oNam_ne
          have to76 : (vg22, (ig22 6274, ig22 6275, ag22 11, ag22 12, ig22 643)) = cOf t nn oOpn (ig10 6274, ig10 6275, ag10 11, ag10 12, ig10 643) := (tOf og22 (kg22.fi 6275 rfl) (kT3 (kg22.fa 11 rfl) (kg22.fa 12 rfl) (kg22.fi 643 rfl)))
          have te77 : (ig22 6274, ig22 6275, ag22 11, ag22 12, ig22 643) = (ig10 6274, ig10 6275, ag10 11, ag10 12, ig10 643) := cOf_no to76 (op64 c72 kopm1) oOpn_ne
          have tb78 : (ig22 6274, (1 : Int32), ag22 11, ag22 12, ig22 643) = cBad (ig22 6274, ig22 6275, ag22 11, ag22 12, ig22 643) := (tBad rfl rfl (kT3 rfl rfl rfl))
          have tb79 : (ig22 6274, (1 : Int32), ag22 11, ag22 12, ig22 643) = cBad (i 6274, i 6275, a 11, a 12, i 643) := tBad2 (te77.trans te75) tb78
          have tp80 : (ig22 6274, (1 : Int32), ag22 11, ag22 12, ig22 643) = cPart t nn (some (cO t nn m)) (i 6274, i 6275, a 11, a 12, i 643) := cPt_bad (sub := cO t nn m) (op35 hv5 z9) to74 (op64 c13 kopm1) te75 to76 (op64 c72 kopm1) tb79
          exact ft_ret mi_k54 (by rfl) (hP  _ _ _ _ hJ73 ⟨trivial, (tp80.trans (congrFun (cO_s hm).symm _))⟩)
    ·
      have c81 : vg10.toInt ≠ ((-1) : Int32).toInt := kd_eqF c; clear c
      refine ft_go mi_k54 2 33 [(3, .int vg10), (2, .int vg2), (0, .ref 98), (1, .int x1)] [.ref (rg10 2)] ig10 ag10 qg10 rg10 (by rfl) ?_
      refine ko_eq (x1 := (33, [(3, .int vg10), (2, .int vg2), (0, .ref 98), (1, .int x1)], [.ref 10], (0, 0), ks ig10 ag10 qg10 rg10)) (by rw [eRrg10_2]) ?_
      have s82 : ((vg10.toUInt32 % 65536).toInt32).toInt = vg10.toInt := kd_i2c (op99 c81 z11 kopm1) (Int.le_trans (op100 z11) (by decide))
      refine ft_go mi_k54 4 38 [(3, .int vg10), (2, .int vg2), (0, .ref 98), (1, .int x1)] [.int ((vg10.toUInt32 % 65536).toInt32), .ref (mi_RO + 10), .int 1, .ref 10] ig10 ag10 qg10 rg10 (by rfl) ?_
      refine ko_callPI mi_k54.1 (pc := 38) (ls := [(3, .int vg10), (2, .int vg2), (0, .ref 98), (1, .int x1)]) (st := [.int ((vg10.toUInt32 % 65536).toInt32), .ref (mi_RO + 10), .int 1, .ref 10]) (h := ks ig10 ag10 qg10 rg10) (i := (.invokevirtual 50, 3, 228, 0, 9, 0, 190)) (mi_k54.2 _ _ (by rfl)) (ft_invS mi_pq228 (by rfl)) (cy := mi_c228) mi_pq228 rfl (ke228_1000010 hGg10.I hGg10.R ((vg10.toUInt32 % 65536).toInt32) (op101 c81 s82 z11 kopm1)) (kj_d3 (n := n) (c := 7) (o1 := 10) (by decide)) ?_
      intro vg83 hg83
      have z84 : (((-1) : Int) ≤ vg83.toInt) ∧ (vg83.toInt ≤ 5) ∧ (((((vg10.toUInt32 % 65536).toInt32).toInt = 119) → (vg83.toInt = 0))) ∧ (((((vg10.toUInt32 % 65536).toInt32).toInt = 112) → (vg83.toInt = 1))) ∧ (((((vg10.toUInt32 % 65536).toInt32).toInt = 104) → (vg83.toInt = 2))) ∧ (((((vg10.toUInt32 % 65536).toInt32).toInt = 110) → (vg83.toInt = 3))) ∧ (((((vg10.toUInt32 % 65536).toInt32).toInt = 111) → (vg83.toInt = 4))) ∧ (((((vg10.toUInt32 % 65536).toInt32).toInt = 100) → (vg83.toInt = 5))) ∧ (((vg83.toInt = 0) → (((vg10.toUInt32 % 65536).toInt32).toInt = 119))) ∧ (((vg83.toInt = 1) → (((vg10.toUInt32 % 65536).toInt32).toInt = 112))) ∧ (((vg83.toInt = 2) → (((vg10.toUInt32 % 65536).toInt32).toInt = 104))) ∧ (((vg83.toInt = 3) → (((vg10.toUInt32 % 65536).toInt32).toInt = 110))) ∧ (((vg83.toInt = 4) → (((vg10.toUInt32 % 65536).toInt32).toInt = 111))) ∧ (((vg83.toInt = 5) → (((vg10.toUInt32 % 65536).toInt32).toInt = 100))) ∧ ((vg83.toInt = (-1)) ∨ (((vg10.toUInt32 % 65536).toInt32).toInt = 119) ∨ (((vg10.toUInt32 % 65536).toInt32).toInt = 112) ∨ (((vg10.toUInt32 % 65536).toInt32).toInt = 104) ∨ (((vg10.toUInt32 % 65536).toInt32).toInt = 110) ∨ (((vg10.toUInt32 % 65536).toInt32).toInt = 111) ∨ (((vg10.toUInt32 % 65536).toInt32).toInt = 100)) := hg83
      refine ko_callI mi_k54.1 (pc := 41) (ls := [(3, .int vg10), (2, .int vg2), (0, .ref 98), (1, .int x1)]) (st := [.int vg83, .int 1, .ref 10]) (h := ks ig10 ag10 qg10 rg10) (i := (.invokevirtual 60, 3, 17, 0, 9, 0, 187)) (mi_k54.2 _ _ (by rfl)) (ft_invS mi_pq17 (by rfl)) (cy := mi_c17) mi_pq17 rfl (kf17_10 hGg10.I hGg10.R 1 vg83) (kj_d3 (n := n) (c := 1) (o1 := 10) (by decide)) ?_
      intro vg85 ig85 ag85 qg85 rg85 kg85 hg85
      have hGg85 := kG_call hGg10 kg85 (by decide +kernel)
      have eRrg85_2 : rg85 2 = 10 := (kg85.fr 2 rfl).trans eRrg10_2
      obtain ⟨hg85, og85⟩ := hg85
      have fig10_643 : ((0 : Int) ≤ (ig10 643).toInt) ∧ ((ig10 643).toInt ≤ 121) := hGg10.I.1 643
      have fi_643 : ((0 : Int) ≤ (i 643).toInt) ∧ ((i 643).toInt ≤ 121) := hG.I.1 643
      have efig10_643 : (ig10 643).toInt = (i 643).toInt := kg10.ti 643 rfl
      have fig85_643 : ((0 : Int) ≤ (ig85 643).toInt) ∧ ((ig85 643).toInt ≤ 121) := hGg85.I.1 643
      have z86 : (((ig10 643).toInt ≤ 120) ∧ ((ig85 643).toInt = ((ig10 643).toInt + 1))) ∨ (((121 : Int) ≤ (ig10 643).toInt) ∧ ((ig85 643).toInt = (ig10 643).toInt)) := hg85
      refine ft_go mi_k54 1 45 [(3, .int vg10), (2, .int vg2), (0, .ref 98), (1, .int x1)] [] ig85 ag85 qg85 rg85 (by rfl) ?_
      exact ft_ret mi_k54 (by rfl) (hP  _ _ _ _ hGg85 ⟨trivial, (cPt_lv (cO_any t nn n) (fun nx => cPt_nam (nx := nx) (op102 c81 ho12 hv5 z11 z3.1 kopm1) (tOf og10 (kg10.fi 6275 rfl) (kT3 (kg10.fa 11 rfl) (kg10.fa 12 rfl) (kg10.fi 643 rfl))) (op104 c81 z11 kopm1) (nIdx_of (op103 c81 s82 z11 z84.2.1 z84.2.2.1 z84.2.2.2.1 z84.2.2.2.2.1 z84.2.2.2.2.2.1 z84.2.2.2.2.2.2.1 z84.2.2.2.2.2.2.2.1 kopm1)) (tAdd og85.1 (kg85.fi 6274 rfl) (kg85.fi 6275 rfl))))⟩)
