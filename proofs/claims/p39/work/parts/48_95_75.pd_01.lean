set_option maxRecDepth 100000 in
theorem ke230_1000011 {i : Nat → Int32} {a : Nat → List Int32} {q : Nat → List Int64} {r : Nat → Nat} (hI : kI i a q) (hr : kr r)  : km 1 230 [.ref (mi_RO + 11)] (ks i a q r) (kPI (ks i a q r) (fun v => v.toInt = 0)) := by
  have hG := kG_self kW0 hI hr
  refine km_ofPI (q := (mi_h230, mi_c230)) rfl (by decide) (Nat.le_of_ble_eq_true rfl) ?_
  intro P hP
  refine ft_go mi_k230 5 14 [(0, .ref (mi_RO + 11))] [.int 0] i a q r (by rfl) ?_
  exact ft_ret mi_k230 (by rfl) (hP 0 (op41 kop0))
set_option maxRecDepth 100000 in
theorem ke227_1000011 {i : Nat → Int32} {a : Nat → List Int32} {q : Nat → List Int64} {r : Nat → Nat} (hI : kI i a q) (hr : kr r)  : km 3 227 [.ref (mi_RO + 11)] (ks i a q r) (kPI (ks i a q r) (fun v => v.toInt = 3)) := by
  have hG := kG_self kW0 hI hr
  refine km_ofPI (q := (mi_h227, mi_c227)) rfl (by decide) (Nat.le_of_ble_eq_true rfl) ?_
  intro P hP
  first | refine ft_go mi_k227 4 6 [(0, .ref (mi_RO + 11))] [.ref (mi_RO + 11), .int 3] i a q r (by rfl) ?_ | refine ko_steps mi_in227 4 _ (6, [(0, .ref (mi_RO + 11))], [.ref (mi_RO + 11), .int 3], (0, 0), ks i a q r) (by rfl) ?_
  refine ko_callPI mi_k227.1 (pc := 6) (ls := [(0, .ref (mi_RO + 11))]) (st := [.ref (mi_RO + 11), .int 3]) (h := ks i a q r) (i := (.invokevirtual 335, 3, 230, 0, 9, 0, 32)) (mi_k227.2 _ _ (by rfl)) (ft_invS mi_pq230 (by rfl)) (cy := mi_c230) mi_pq230 rfl (ke230_1000011 hG.I hG.R ) (by decide) ?_
  intro vg1 hg1
  have z2 : vg1.toInt = 0 := hg1
  refine ko_eq (x1 := (9, [(0, .ref (mi_RO + 11))], [.int 0, .int 3], (0, 0), ks i a q r)) (by rw [(kj_eq (op41 z2) (by decide) : vg1 = 0)]) ?_
  first | refine ft_go mi_k227 1 10 [(0, .ref (mi_RO + 11))] [.int ((3 : Int32) >>> ((0 : Int32) &&& 31))] i a q r (by rfl) ?_ | refine ko_steps mi_in227 1 _ (10, [(0, .ref (mi_RO + 11))], [.int ((3 : Int32) >>> ((0 : Int32) &&& 31))], (0, 0), ks i a q r) (by rfl) ?_
  refine ko_eq (x1 := (10, [(0, .ref (mi_RO + 11))], [.int 3], (0, 0), ks i a q r)) (by rw [(by decide : ((3 : Int32) >>> ((0 : Int32) &&& 31) : Int32) = 3)]) ?_
  exact ft_ret mi_k227 (by rfl) (hP 3 (op70 kop3))
set_option maxRecDepth 100000 in
theorem ke234_1000021_l10_l23 {i : Nat → Int32} {a : Nat → List Int32} {q : Nat → List Int64} {r : Nat → Nat} (hI : kI i a q) (hr : kr r) (x2 : Int32) (hp0 : ((0 : Int) ≤ x2.toInt) ∧ (x2.toInt ≤ 255)) : km 1 234 [.ref (mi_RO + 21), .int x2, .int 0, .int 3] (ks i a q r) (kPI (ks i a q r) (fun v => (((-1) : Int) ≤ v.toInt) ∧ (v.toInt ≤ 2) ∧ (((x2.toInt = 40) → (v.toInt = 0))) ∧ (((x2.toInt = 33) → (v.toInt = 1))) ∧ (((x2.toInt = 45) → (v.toInt = 2))) ∧ (((v.toInt = 0) → (x2.toInt = 40))) ∧ (((v.toInt = 1) → (x2.toInt = 33))) ∧ (((v.toInt = 2) → (x2.toInt = 45))) ∧ ((v.toInt = (-1)) ∨ (x2.toInt = 40) ∨ (x2.toInt = 33) ∨ (x2.toInt = 45)))) := by
  have hG := kG_self kW0 hI hr
  refine km_ofPI (q := (mi_h234, mi_c234)) rfl (by decide) (Nat.le_of_ble_eq_true rfl) ?_
  intro P hP
  have s1 : ((x2.toInt ≤ 127 → x2.toInt8.toInt32.toInt = x2.toInt)) ∧ ((128 ≤ x2.toInt → x2.toInt8.toInt32.toInt = x2.toInt - 256)) := kd_i2b (op4 hp0.1) (op40 hp0.2)
  first | refine ft_go mi_k234 12 19 [(5, .int 0), (4, .int x2.toInt8.toInt32), (0, .ref (mi_RO + 21)), (1, .int x2), (2, .int 0), (3, .int 3)] [.int x2.toInt8.toInt32, .int 40] i a q r (by rfl) ?_ | refine ko_steps mi_in234 12 _ (19, [(5, .int 0), (4, .int x2.toInt8.toInt32), (0, .ref (mi_RO + 21)), (1, .int x2), (2, .int 0), (3, .int 3)], [.int x2.toInt8.toInt32, .int 40], (0, 0), ks i a q r) (by rfl) ?_
  refine ft_if mi_k234 (40 != x2.toInt8.toInt32) 25 22 [(5, .int 0), (4, .int x2.toInt8.toInt32), (0, .ref (mi_RO + 21)), (1, .int x2), (2, .int 0), (3, .int 3)] [] (by rfl) (fun c => ?_) (fun c => ?_)
  ·
    have c2 : (40 : Int32).toInt ≠ x2.toInt8.toInt32.toInt := kd_ne c; clear c
    first | refine ft_go mi_k234 1 28 [(5, .int (0 + 1)), (4, .int x2.toInt8.toInt32), (0, .ref (mi_RO + 21)), (1, .int x2), (2, .int 0), (3, .int 3)] [] i a q r (by rfl) ?_ | refine ko_steps mi_in234 1 _ (28, [(5, .int (0 + 1)), (4, .int x2.toInt8.toInt32), (0, .ref (mi_RO + 21)), (1, .int x2), (2, .int 0), (3, .int 3)], [], (0, 0), ks i a q r) (by rfl) ?_
    refine ko_eq (x1 := (28, [(5, .int 1), (4, .int x2.toInt8.toInt32), (0, .ref (mi_RO + 21)), (1, .int x2), (2, .int 0), (3, .int 3)], [], (0, 0), ks i a q r)) (by rw [(by decide : (0 + 1 : Int32) = 1)]) ?_
    first | refine ft_go mi_k234 8 19 [(5, .int 1), (4, .int x2.toInt8.toInt32), (0, .ref (mi_RO + 21)), (1, .int x2), (2, .int 0), (3, .int 3)] [.int x2.toInt8.toInt32, .int 33] i a q r (by rfl) ?_ | refine ko_steps mi_in234 8 _ (19, [(5, .int 1), (4, .int x2.toInt8.toInt32), (0, .ref (mi_RO + 21)), (1, .int x2), (2, .int 0), (3, .int 3)], [.int x2.toInt8.toInt32, .int 33], (0, 0), ks i a q r) (by rfl) ?_
    refine ft_if mi_k234 (33 != x2.toInt8.toInt32) 25 22 [(5, .int 1), (4, .int x2.toInt8.toInt32), (0, .ref (mi_RO + 21)), (1, .int x2), (2, .int 0), (3, .int 3)] [] (by rfl) (fun c => ?_) (fun c => ?_)
    ·
      have c3 : (33 : Int32).toInt ≠ x2.toInt8.toInt32.toInt := kd_ne c; clear c
      first | refine ft_go mi_k234 1 28 [(5, .int (1 + 1)), (4, .int x2.toInt8.toInt32), (0, .ref (mi_RO + 21)), (1, .int x2), (2, .int 0), (3, .int 3)] [] i a q r (by rfl) ?_ | refine ko_steps mi_in234 1 _ (28, [(5, .int (1 + 1)), (4, .int x2.toInt8.toInt32), (0, .ref (mi_RO + 21)), (1, .int x2), (2, .int 0), (3, .int 3)], [], (0, 0), ks i a q r) (by rfl) ?_
      refine ko_eq (x1 := (28, [(5, .int 2), (4, .int x2.toInt8.toInt32), (0, .ref (mi_RO + 21)), (1, .int x2), (2, .int 0), (3, .int 3)], [], (0, 0), ks i a q r)) (by rw [(by decide : (1 + 1 : Int32) = 2)]) ?_
      first | refine ft_go mi_k234 8 19 [(5, .int 2), (4, .int x2.toInt8.toInt32), (0, .ref (mi_RO + 21)), (1, .int x2), (2, .int 0), (3, .int 3)] [.int x2.toInt8.toInt32, .int 45] i a q r (by rfl) ?_ | refine ko_steps mi_in234 8 _ (19, [(5, .int 2), (4, .int x2.toInt8.toInt32), (0, .ref (mi_RO + 21)), (1, .int x2), (2, .int 0), (3, .int 3)], [.int x2.toInt8.toInt32, .int 45], (0, 0), ks i a q r) (by rfl) ?_
      refine ft_if mi_k234 (45 != x2.toInt8.toInt32) 25 22 [(5, .int 2), (4, .int x2.toInt8.toInt32), (0, .ref (mi_RO + 21)), (1, .int x2), (2, .int 0), (3, .int 3)] [] (by rfl) (fun c => ?_) (fun c => ?_)
      ·
        have c4 : (45 : Int32).toInt ≠ x2.toInt8.toInt32.toInt := kd_ne c; clear c
        first | refine ft_go mi_k234 1 28 [(5, .int (2 + 1)), (4, .int x2.toInt8.toInt32), (0, .ref (mi_RO + 21)), (1, .int x2), (2, .int 0), (3, .int 3)] [] i a q r (by rfl) ?_ | refine ko_steps mi_in234 1 _ (28, [(5, .int (2 + 1)), (4, .int x2.toInt8.toInt32), (0, .ref (mi_RO + 21)), (1, .int x2), (2, .int 0), (3, .int 3)], [], (0, 0), ks i a q r) (by rfl) ?_
        refine ko_eq (x1 := (28, [(5, .int 3), (4, .int x2.toInt8.toInt32), (0, .ref (mi_RO + 21)), (1, .int x2), (2, .int 0), (3, .int 3)], [], (0, 0), ks i a q r)) (by rw [(by decide : (2 + 1 : Int32) = 3)]) ?_
        first | refine ft_go mi_k234 5 32 [(5, .int 3), (4, .int x2.toInt8.toInt32), (0, .ref (mi_RO + 21)), (1, .int x2), (2, .int 0), (3, .int 3)] [.int (-1)] i a q r (by rfl) ?_ | refine ko_steps mi_in234 5 _ (32, [(5, .int 3), (4, .int x2.toInt8.toInt32), (0, .ref (mi_RO + 21)), (1, .int x2), (2, .int 0), (3, .int 3)], [.int (-1)], (0, 0), ks i a q r) (by rfl) ?_
        exact ft_ret mi_k234 (by rfl) (hP (-1) (op71 c2 c3 c4 s1.1 kop40 kop33 kop45 kopm1))
      ·
        have c5 : (45 : Int32).toInt = x2.toInt8.toInt32.toInt := kd_neF c; clear c
        first | refine ft_go mi_k234 1 24 [(5, .int 2), (4, .int x2.toInt8.toInt32), (0, .ref (mi_RO + 21)), (1, .int x2), (2, .int 0), (3, .int 3)] [.int 2] i a q r (by rfl) ?_ | refine ko_steps mi_in234 1 _ (24, [(5, .int 2), (4, .int x2.toInt8.toInt32), (0, .ref (mi_RO + 21)), (1, .int x2), (2, .int 0), (3, .int 3)], [.int 2], (0, 0), ks i a q r) (by rfl) ?_
        exact ft_ret mi_k234 (by rfl) (hP 2 (op72 c5 hp0.2 s1.1 s1.2 kop45 kop2))
    ·
      have c6 : (33 : Int32).toInt = x2.toInt8.toInt32.toInt := kd_neF c; clear c
      first | refine ft_go mi_k234 1 24 [(5, .int 1), (4, .int x2.toInt8.toInt32), (0, .ref (mi_RO + 21)), (1, .int x2), (2, .int 0), (3, .int 3)] [.int 1] i a q r (by rfl) ?_ | refine ko_steps mi_in234 1 _ (24, [(5, .int 1), (4, .int x2.toInt8.toInt32), (0, .ref (mi_RO + 21)), (1, .int x2), (2, .int 0), (3, .int 3)], [.int 1], (0, 0), ks i a q r) (by rfl) ?_
      exact ft_ret mi_k234 (by rfl) (hP 1 (op73 c6 hp0.2 s1.1 s1.2 kop33 kop1))
  ·
    have c7 : (40 : Int32).toInt = x2.toInt8.toInt32.toInt := kd_neF c; clear c
    first | refine ft_go mi_k234 1 24 [(5, .int 0), (4, .int x2.toInt8.toInt32), (0, .ref (mi_RO + 21)), (1, .int x2), (2, .int 0), (3, .int 3)] [.int 0] i a q r (by rfl) ?_ | refine ko_steps mi_in234 1 _ (24, [(5, .int 0), (4, .int x2.toInt8.toInt32), (0, .ref (mi_RO + 21)), (1, .int x2), (2, .int 0), (3, .int 3)], [.int 0], (0, 0), ks i a q r) (by rfl) ?_
    exact ft_ret mi_k234 (by rfl) (hP 0 (op74 c7 hp0.2 s1.1 s1.2 kop40 kop0))
set_option maxRecDepth 100000 in
theorem ke233_1000021_l10_l23 {i : Nat → Int32} {a : Nat → List Int32} {q : Nat → List Int64} {r : Nat → Nat} (hI : kI i a q) (hr : kr r) (x2 : Int32) (hp0 : ((0 : Int) ≤ x2.toInt) ∧ (x2.toInt ≤ 255)) : km 3 233 [.ref (mi_RO + 21), .int x2, .int 0, .int 3] (ks i a q r) (kPI (ks i a q r) (fun v => (((-1) : Int) ≤ v.toInt) ∧ (v.toInt ≤ 2) ∧ (((x2.toInt = 40) → (v.toInt = 0))) ∧ (((x2.toInt = 33) → (v.toInt = 1))) ∧ (((x2.toInt = 45) → (v.toInt = 2))) ∧ (((v.toInt = 0) → (x2.toInt = 40))) ∧ (((v.toInt = 1) → (x2.toInt = 33))) ∧ (((v.toInt = 2) → (x2.toInt = 45))) ∧ ((v.toInt = (-1)) ∨ (x2.toInt = 40) ∨ (x2.toInt = 33) ∨ (x2.toInt = 45)))) := by
  have hG := kG_self kW0 hI hr
  refine km_ofPI (q := (mi_h233, mi_c233)) rfl (by decide) (Nat.le_of_ble_eq_true rfl) ?_
  intro P hP
  first | refine ft_go mi_k233 1 1 [(0, .ref (mi_RO + 21)), (1, .int x2), (2, .int 0), (3, .int 3)] [.int x2] i a q r (by rfl) ?_ | refine ko_steps mi_in233 1 _ (1, [(0, .ref (mi_RO + 21)), (1, .int x2), (2, .int 0), (3, .int 3)], [.int x2], (0, 0), ks i a q r) (by rfl) ?_
  refine ko_callPI mi_k233.1 (pc := 1) (ls := [(0, .ref (mi_RO + 21)), (1, .int x2), (2, .int 0), (3, .int 3)]) (st := [.int x2]) (h := ks i a q r) (i := (.invokestatic 88, 3, 232, 0, 9, 0, 195)) (mi_k233.2 _ _ (by rfl)) (ft_invS mi_pq232 (by rfl)) (cy := mi_c232) mi_pq232 rfl (ke232 hG.I hG.R x2) (by decide) ?_
  intro vg1 hg1
  rcases hg1 with ⟨eg1, hg1⟩ | ⟨eg1, hg1⟩
  ·
    subst eg1
    have z2 : ((0 : Int) ≤ x2.toInt) ∧ (x2.toInt ≤ 255) := hg1
    first | refine ft_go mi_k233 4 14 [(0, .ref (mi_RO + 21)), (1, .int x2), (2, .int 0), (3, .int 3)] [.int (bif decide ((0 : Int32) < 0) then 0 else 0)] i a q r (by rfl) ?_ | refine ko_steps mi_in233 4 _ (14, [(0, .ref (mi_RO + 21)), (1, .int x2), (2, .int 0), (3, .int 3)], [.int (bif decide ((0 : Int32) < 0) then 0 else 0)], (0, 0), ks i a q r) (by rfl) ?_
    refine ko_eq (x1 := (14, [(0, .ref (mi_RO + 21)), (1, .int x2), (2, .int 0), (3, .int 3)], [.int 0], (0, 0), ks i a q r)) (by rw [(by decide : (bif decide ((0 : Int32) < 0) then 0 else 0 : Int32) = 0)]) ?_
    first | refine ft_go mi_k233 5 21 [(2, .int 0), (0, .ref (mi_RO + 21)), (1, .int x2), (3, .int 3)] [.int (bif decide ((3 : Int32) < 3) then 3 else 3)] i a q r (by rfl) ?_ | refine ko_steps mi_in233 5 _ (21, [(2, .int 0), (0, .ref (mi_RO + 21)), (1, .int x2), (3, .int 3)], [.int (bif decide ((3 : Int32) < 3) then 3 else 3)], (0, 0), ks i a q r) (by rfl) ?_
    refine ko_eq (x1 := (21, [(2, .int 0), (0, .ref (mi_RO + 21)), (1, .int x2), (3, .int 3)], [.int 3], (0, 0), ks i a q r)) (by rw [(by decide : (bif decide ((3 : Int32) < 3) then 3 else 3 : Int32) = 3)]) ?_
    first | refine ft_go mi_k233 8 33 [(3, .int 3), (2, .int 0), (0, .ref (mi_RO + 21)), (1, .int x2)] [.int 3, .int 0, .int x2, .ref (mi_RO + 21)] i a q r (by rfl) ?_ | refine ko_steps mi_in233 8 _ (33, [(3, .int 3), (2, .int 0), (0, .ref (mi_RO + 21)), (1, .int x2)], [.int 3, .int 0, .int x2, .ref (mi_RO + 21)], (0, 0), ks i a q r) (by rfl) ?_
    refine ko_callPI mi_k233.1 (pc := 33) (ls := [(3, .int 3), (2, .int 0), (0, .ref (mi_RO + 21)), (1, .int x2)]) (st := [.int 3, .int 0, .int x2, .ref (mi_RO + 21)]) (h := ks i a q r) (i := (.invokestatic 95, 3, 234, 0, 9, 0, 198)) (mi_k233.2 _ _ (by rfl)) (ft_invS mi_pq234 (by rfl)) (cy := mi_c234) mi_pq234 rfl (ke234_1000021_l10_l23 hG.I hG.R x2 (op53 hp0.1 hp0.2)) (by decide) ?_
    intro vg3 hg3
    have z4 : (((-1) : Int) ≤ vg3.toInt) ∧ (vg3.toInt ≤ 2) ∧ (((x2.toInt = 40) → (vg3.toInt = 0))) ∧ (((x2.toInt = 33) → (vg3.toInt = 1))) ∧ (((x2.toInt = 45) → (vg3.toInt = 2))) ∧ (((vg3.toInt = 0) → (x2.toInt = 40))) ∧ (((vg3.toInt = 1) → (x2.toInt = 33))) ∧ (((vg3.toInt = 2) → (x2.toInt = 45))) ∧ ((vg3.toInt = (-1)) ∨ (x2.toInt = 40) ∨ (x2.toInt = 33) ∨ (x2.toInt = 45)) := hg3
    exact ft_ret mi_k233 (by rfl) (hP vg3 (op75 z4.1 z4.2.1 z4.2.2.1 z4.2.2.2.1 z4.2.2.2.2.1 z4.2.2.2.2.2.1 z4.2.2.2.2.2.2.1 z4.2.2.2.2.2.2.2.1 z4.2.2.2.2.2.2.2.2))
  ·
    subst eg1
    have z5 : ¬ (((0 : Int) ≤ x2.toInt) ∧ (x2.toInt ≤ 255)) := hg1
    exact (op55 hp0.1 hp0.2 z5).elim
set_option maxRecDepth 100000 in
theorem ke229_1000011_l10 {i : Nat → Int32} {a : Nat → List Int32} {q : Nat → List Int64} {r : Nat → Nat} (hI : kI i a q) (hr : kr r) (x1 : Int32) (hp0 : ((0 : Int) ≤ x1.toInt) ∧ (x1.toInt ≤ 255)) : km 5 229 [.ref (mi_RO + 11), .int x1, .int 0] (ks i a q r) (kPI (ks i a q r) (fun v => (((-1) : Int) ≤ v.toInt) ∧ (v.toInt ≤ 2) ∧ (((x1.toInt = 40) → (v.toInt = 0))) ∧ (((x1.toInt = 33) → (v.toInt = 1))) ∧ (((x1.toInt = 45) → (v.toInt = 2))) ∧ (((v.toInt = 0) → (x1.toInt = 40))) ∧ (((v.toInt = 1) → (x1.toInt = 33))) ∧ (((v.toInt = 2) → (x1.toInt = 45))) ∧ ((v.toInt = (-1)) ∨ (x1.toInt = 40) ∨ (x1.toInt = 33) ∨ (x1.toInt = 45)))) := by
  have hG := kG_self kW0 hI hr
  refine km_ofPI (q := (mi_h229, mi_c229)) rfl (by decide) (Nat.le_of_ble_eq_true rfl) ?_
  intro P hP
  refine ft_go mi_k229 1 1 [(0, .ref (mi_RO + 11)), (1, .int x1), (2, .int 0)] [.ref (mi_RO + 11)] i a q r (by rfl) ?_
  refine ko_callPI mi_k229.1 (pc := 1) (ls := [(0, .ref (mi_RO + 11)), (1, .int x1), (2, .int 0)]) (st := [.ref (mi_RO + 11)]) (h := ks i a q r) (i := (.invokevirtual 492, 3, 231, 0, 9, 0, 192)) (mi_k229.2 _ _ (by rfl)) (ft_invS mi_pq231 (by rfl)) (cy := mi_c231) mi_pq231 rfl (kc231_S11 hG.I hG.R ) (by decide) ?_
  intro vg1 hg1
  rcases hg1 with ⟨eg1, hg1⟩ | ⟨eg1, hg1⟩
  ·
    subst eg1
    refine ft_go mi_k229 6 14 [(0, .ref (mi_RO + 11)), (1, .int x1), (2, .int 0)] [.ref (mi_RO + 11), .int 0, .int x1, .ref (mi_RO + 21)] i a q r (by rfl) ?_
    refine ko_callPI mi_k229.1 (pc := 14) (ls := [(0, .ref (mi_RO + 11)), (1, .int x1), (2, .int 0)]) (st := [.ref (mi_RO + 11), .int 0, .int x1, .ref (mi_RO + 21)]) (h := ks i a q r) (i := (.invokevirtual 505, 3, 227, 0, 9, 0, 193)) (mi_k229.2 _ _ (by rfl)) (ft_invS mi_pq227 (by rfl)) (cy := mi_c227) mi_pq227 rfl (ke227_1000011 hG.I hG.R ) (by decide) ?_
    intro vg2 hg2
    have z3 : vg2.toInt = 3 := hg2
    refine ko_eq (x1 := (17, [(0, .ref (mi_RO + 11)), (1, .int x1), (2, .int 0)], [.int 3, .int 0, .int x1, .ref (mi_RO + 21)], (0, 0), ks i a q r)) (by rw [(kj_eq (op70 z3) (by decide) : vg2 = 3)]) ?_
    refine ko_callPI mi_k229.1 (pc := 17) (ls := [(0, .ref (mi_RO + 11)), (1, .int x1), (2, .int 0)]) (st := [.int 3, .int 0, .int x1, .ref (mi_RO + 21)]) (h := ks i a q r) (i := (.invokestatic 637, 3, 233, 0, 9, 0, 194)) (mi_k229.2 _ _ (by rfl)) (ft_invS mi_pq233 (by rfl)) (cy := mi_c233) mi_pq233 rfl (ke233_1000021_l10_l23 hG.I hG.R x1 (op53 hp0.1 hp0.2)) (by decide) ?_
    intro vg4 hg4
    have z5 : (((-1) : Int) ≤ vg4.toInt) ∧ (vg4.toInt ≤ 2) ∧ (((x1.toInt = 40) → (vg4.toInt = 0))) ∧ (((x1.toInt = 33) → (vg4.toInt = 1))) ∧ (((x1.toInt = 45) → (vg4.toInt = 2))) ∧ (((vg4.toInt = 0) → (x1.toInt = 40))) ∧ (((vg4.toInt = 1) → (x1.toInt = 33))) ∧ (((vg4.toInt = 2) → (x1.toInt = 45))) ∧ ((vg4.toInt = (-1)) ∨ (x1.toInt = 40) ∨ (x1.toInt = 33) ∨ (x1.toInt = 45)) := hg4
    refine ft_go mi_k229 1 36 [(0, .ref (mi_RO + 11)), (1, .int x1), (2, .int 0)] [.int vg4] i a q r (by rfl) ?_
    exact ft_ret mi_k229 (by rfl) (hP vg4 (op75 z5.1 z5.2.1 z5.2.2.1 z5.2.2.2.1 z5.2.2.2.2.1 z5.2.2.2.2.2.1 z5.2.2.2.2.2.2.1 z5.2.2.2.2.2.2.2.1 z5.2.2.2.2.2.2.2.2))
  ·
    subst eg1
    have z6 : (2 : Int) ≤ 1 := hg1
    exact (op56 z6).elim
set_option maxRecDepth 100000 in
theorem ke228_1000011 {i : Nat → Int32} {a : Nat → List Int32} {q : Nat → List Int64} {r : Nat → Nat} (hI : kI i a q) (hr : kr r) (x1 : Int32) (hp0 : ((0 : Int) ≤ x1.toInt) ∧ (x1.toInt ≤ 255)) : km 7 228 [.ref (mi_RO + 11), .int x1] (ks i a q r) (kPI (ks i a q r) (fun v => (((-1) : Int) ≤ v.toInt) ∧ (v.toInt ≤ 2) ∧ (((x1.toInt = 40) → (v.toInt = 0))) ∧ (((x1.toInt = 33) → (v.toInt = 1))) ∧ (((x1.toInt = 45) → (v.toInt = 2))) ∧ (((v.toInt = 0) → (x1.toInt = 40))) ∧ (((v.toInt = 1) → (x1.toInt = 33))) ∧ (((v.toInt = 2) → (x1.toInt = 45))) ∧ ((v.toInt = (-1)) ∨ (x1.toInt = 40) ∨ (x1.toInt = 33) ∨ (x1.toInt = 45)))) := by
  have hG := kG_self kW0 hI hr
  refine km_ofPI (q := (mi_h228, mi_c228)) rfl (by decide) (Nat.le_of_ble_eq_true rfl) ?_
  intro P hP
  refine ft_go mi_k228 3 3 [(0, .ref (mi_RO + 11)), (1, .int x1)] [.int 0, .int x1, .ref (mi_RO + 11)] i a q r (by rfl) ?_
  refine ko_callPI mi_k228.1 (pc := 3) (ls := [(0, .ref (mi_RO + 11)), (1, .int x1)]) (st := [.int 0, .int x1, .ref (mi_RO + 11)]) (h := ks i a q r) (i := (.invokevirtual 633, 3, 229, 0, 9, 0, 191)) (mi_k228.2 _ _ (by rfl)) (ft_invS mi_pq229 (by rfl)) (cy := mi_c229) mi_pq229 rfl (ke229_1000011_l10 hG.I hG.R x1 (op53 hp0.1 hp0.2)) (by decide) ?_
  intro vg1 hg1
  have z2 : (((-1) : Int) ≤ vg1.toInt) ∧ (vg1.toInt ≤ 2) ∧ (((x1.toInt = 40) → (vg1.toInt = 0))) ∧ (((x1.toInt = 33) → (vg1.toInt = 1))) ∧ (((x1.toInt = 45) → (vg1.toInt = 2))) ∧ (((vg1.toInt = 0) → (x1.toInt = 40))) ∧ (((vg1.toInt = 1) → (x1.toInt = 33))) ∧ (((vg1.toInt = 2) → (x1.toInt = 45))) ∧ ((vg1.toInt = (-1)) ∨ (x1.toInt = 40) ∨ (x1.toInt = 33) ∨ (x1.toInt = 45)) := hg1
  exact ft_ret mi_k228 (by rfl) (hP vg1 (op75 z2.1 z2.2.1 z2.2.2.1 z2.2.2.2.1 z2.2.2.2.2.1 z2.2.2.2.2.2.1 z2.2.2.2.2.2.2.1 z2.2.2.2.2.2.2.2.1 z2.2.2.2.2.2.2.2.2))
def yw47_98_1000011 : kW := ([6274], [], [], [])
set_option maxRecDepth 100000 in
theorem ke47_98_1000011 {i : Nat → Int32} {a : Nat → List Int32} {q : Nat → List Int64} {r : Nat → Nat} (hI : kI i a q) (hr : kr r) (t : List Int32) (nn : Int32) (hT : a 99 = t) (hN : i 6273 = nn) (hX : kBy t) : km 9 47 [.ref 98, .ref (mi_RO + 11)] (ks i a q r) (kVI yw47_98_1000011 i a q r (fun v i1 a1 q1 r1 => (((v.toInt = (-1)) ∧ ((i1 6274).toInt = (i 6274).toInt)) ∨ (((i1 6274).toInt = ((i 6274).toInt + 1)) ∧ ((i 6274).toInt < (i 6273).toInt) ∧ ((i 6275).toInt = 0) ∧ ((v.toInt = 40) ∨ (v.toInt = 33) ∨ (v.toInt = 45)))) ∧ (v, i1 6274) = cOfP t nn oOpn (i 6274) (i 6275))) := by
  have hG := kG_self yw47_98_1000011 hI hr
  refine km_ofI (q := (mi_h47, mi_c47)) rfl (by decide) (Nat.le_of_ble_eq_true rfl) ?_
  intro P hP
  have hn1 : (i 6273).toInt = nn.toInt := congrArg Int32.toInt hN
  refine ft_go mi_k47 1 1 [(0, .ref 98), (1, .ref (mi_RO + 11))] [.ref 98] i a q r (by rfl) ?_
  refine ko_callPI mi_k47.1 (pc := 1) (ls := [(0, .ref 98), (1, .ref (mi_RO + 11))]) (st := [.ref 98]) (h := ks i a q r) (i := (.invokevirtual 46, 3, 45, 0, 9, 0, 184)) (mi_k47.2 _ _ (by rfl)) (ft_invS mi_pq45 (by rfl)) (cy := mi_c45) mi_pq45 rfl (ke45_98 hG.I hG.R t nn hT hN hX) (by decide) ?_
  intro vg2 hg2
  obtain ⟨hg2, og2⟩ := hg2
  have fi_6275 : ((0 : Int) ≤ (i 6275).toInt) ∧ ((i 6275).toInt ≤ 1) := hG.I.1 6275
  have fi_6274 : ((0 : Int) ≤ (i 6274).toInt) ∧ ((i 6274).toInt ≤ 120) := hG.I.1 6274
  have fi_6273 : ((0 : Int) ≤ (i 6273).toInt) ∧ ((i 6273).toInt ≤ 120) := hG.I.1 6273
  have z3 : (((-1) : Int) ≤ vg2.toInt) ∧ (vg2.toInt ≤ 255) ∧ ((vg2.toInt = (-1)) ∨ (((i 6275).toInt = 0) ∧ ((i 6274).toInt < (i 6273).toInt))) := hg2
  have q4 : vg2 = cHr t nn (i 6274) (i 6275) := og2
  have hv5 : vg2.toInt = (cHr t nn (i 6274) (i 6275)).toInt := congrArg Int32.toInt og2
  refine ft_go mi_k47 3 7 [(2, .int vg2), (0, .ref 98), (1, .ref (mi_RO + 11))] [.int (-1), .int vg2] i a q r (by rfl) ?_
  refine ft_if mi_k47 (vg2 == (-1)) 19 10 [(2, .int vg2), (0, .ref 98), (1, .ref (mi_RO + 11))] [] (by rfl) (fun c => ?_) (fun c => ?_)
  ·
    have c6 : vg2.toInt = ((-1) : Int32).toInt := kd_eq c; clear c
    refine ft_go mi_k47 1 20 [(2, .int vg2), (0, .ref 98), (1, .ref (mi_RO + 11))] [.int (-1)] i a q r (by rfl) ?_
    exact ft_ret mi_k47 (by rfl) (hP (-1) _ _ _ _ hG ⟨(op68 kopm1), (ofP_n (o := oOpn) (decide_eq_false (op69 c6 hv5 kopm1)))⟩)
  ·
    have c7 : vg2.toInt ≠ ((-1) : Int32).toInt := kd_eqF c; clear c
    have s8 : ((vg2.toUInt32 % 65536).toInt32).toInt = vg2.toInt := kd_i2c (op39 c7 z3.1 kopm1) (Int.le_trans (op40 z3.2.1) (by decide))
    refine ft_go mi_k47 3 13 [(2, .int vg2), (0, .ref 98), (1, .ref (mi_RO + 11))] [.int ((vg2.toUInt32 % 65536).toInt32), .ref (mi_RO + 11)] i a q r (by rfl) ?_
    refine ko_callPI mi_k47.1 (pc := 13) (ls := [(2, .int vg2), (0, .ref 98), (1, .ref (mi_RO + 11))]) (st := [.int ((vg2.toUInt32 % 65536).toInt32), .ref (mi_RO + 11)]) (h := ks i a q r) (i := (.invokevirtual 50, 3, 228, 0, 9, 0, 190)) (mi_k47.2 _ _ (by rfl)) (ft_invS mi_pq228 (by rfl)) (cy := mi_c228) mi_pq228 rfl (ke228_1000011 hG.I hG.R ((vg2.toUInt32 % 65536).toInt32) (op57 c7 s8 z3.1 z3.2.1 kopm1)) (by decide) ?_
    intro vg9 hg9
    have z10 : (((-1) : Int) ≤ vg9.toInt) ∧ (vg9.toInt ≤ 2) ∧ (((((vg2.toUInt32 % 65536).toInt32).toInt = 40) → (vg9.toInt = 0))) ∧ (((((vg2.toUInt32 % 65536).toInt32).toInt = 33) → (vg9.toInt = 1))) ∧ (((((vg2.toUInt32 % 65536).toInt32).toInt = 45) → (vg9.toInt = 2))) ∧ (((vg9.toInt = 0) → (((vg2.toUInt32 % 65536).toInt32).toInt = 40))) ∧ (((vg9.toInt = 1) → (((vg2.toUInt32 % 65536).toInt32).toInt = 33))) ∧ (((vg9.toInt = 2) → (((vg2.toUInt32 % 65536).toInt32).toInt = 45))) ∧ ((vg9.toInt = (-1)) ∨ (((vg2.toUInt32 % 65536).toInt32).toInt = 40) ∨ (((vg2.toUInt32 % 65536).toInt32).toInt = 33) ∨ (((vg2.toUInt32 % 65536).toInt32).toInt = 45)) := hg9
    refine ft_if mi_k47 (decide (0 ≤ vg9)) 21 19 [(2, .int vg2), (0, .ref 98), (1, .ref (mi_RO + 11))] [] (by rfl) (fun c => ?_) (fun c => ?_)
    ·
      have c11 : (0 : Int32).toInt ≤ vg9.toInt := kd_le c; clear c
      have s12 : ((i 6274) + 1).toInt = (i 6274).toInt + (1 : Int32).toInt := kd_add (op18 fi_6274.1 kop1) (op26 fi_6274.2 kop1)
      have hJ13 := kG_i hG 6274 rfl (v := ((i 6274) + 1)) ⟨(op20 fi_6274.1 s12 kop1), (op58 c7 fi_6273.2 s12 z3.1 z3.2.2 kopm1 kop1)⟩
      refine ft_go mi_k47 7 32 [(2, .int vg2), (0, .ref 98), (1, .ref (mi_RO + 11))] [.int vg2] (ku i 6274 ((i 6274) + 1)) a q r (by rfl) ?_
      exact ft_ret mi_k47 (by rfl) (hP vg2 _ _ _ _ hJ13 ⟨(op76 c11 c7 fi_6275.1 s12 s8 z10.2.1 z10.2.2.1 z10.2.2.2.2.2.1 z10.2.2.2.2.2.2.1 z10.2.2.2.2.2.2.2.1 z3.1 z3.2.2 kop0 kopm1 kop1), (ofP_y (o := oOpn) (decide_eq_true (op77 c11 hv5 s8 z10.2.1 z10.2.2.1 z10.2.2.2.2.2.1 z10.2.2.2.2.2.2.1 z10.2.2.2.2.2.2.2.1 kop0)) og2)⟩)
    ·
      have c14 : vg9.toInt < (0 : Int32).toInt := kd_leF c; clear c
      refine ft_go mi_k47 1 20 [(2, .int vg2), (0, .ref 98), (1, .ref (mi_RO + 11))] [.int (-1)] i a q r (by rfl) ?_
      exact ft_ret mi_k47 (by rfl) (hP (-1) _ _ _ _ hG ⟨(op68 kopm1), (ofP_n (o := oOpn) (decide_eq_false (op78 c14 hv5 s8 z10.2.2.1 z10.2.2.2.1 z10.2.2.2.2.1 kop0)))⟩)
def yw46_98 : kW := ([6274], [], [], [])
set_option maxRecDepth 100000 in
theorem ke46_98 {i : Nat → Int32} {a : Nat → List Int32} {q : Nat → List Int64} {r : Nat → Nat} (hI : kI i a q) (hr : kr r) (x1 : Int32) (hp0 : (0 : Int) ≤ x1.toInt) (t : List Int32) (nn : Int32) (hT : a 99 = t) (hN : i 6273 = nn) (hX : kBy t) : km 3 46 [.ref 98, .int x1] (ks i a q r) (kVI yw46_98 i a q r (fun v i1 a1 q1 r1 => (((v.toInt = 1) ∧ ((i1 6274).toInt = ((i 6274).toInt + 1)) ∧ ((i 6274).toInt < (i 6273).toInt) ∧ ((i 6275).toInt = 0)) ∨ ((v.toInt = 0) ∧ ((i1 6274).toInt = (i 6274).toInt))) ∧ (v, i1 6274) = cTkP t nn x1 (i 6274) (i 6275))) := by
  have hG := kG_self yw46_98 hI hr
  refine km_ofI (q := (mi_h46, mi_c46)) rfl (by decide) (Nat.le_of_ble_eq_true rfl) ?_
  intro P hP
  have hn1 : (i 6273).toInt = nn.toInt := congrArg Int32.toInt hN
  refine ft_go mi_k46 1 1 [(0, .ref 98), (1, .int x1)] [.ref 98] i a q r (by rfl) ?_
  refine ko_callPI mi_k46.1 (pc := 1) (ls := [(0, .ref 98), (1, .int x1)]) (st := [.ref 98]) (h := ks i a q r) (i := (.invokevirtual 46, 3, 45, 0, 9, 0, 184)) (mi_k46.2 _ _ (by rfl)) (ft_invS mi_pq45 (by rfl)) (cy := mi_c45) mi_pq45 rfl (ke45_98 hG.I hG.R t nn hT hN hX) (by decide) ?_
  intro vg2 hg2
  obtain ⟨hg2, og2⟩ := hg2
  have fi_6275 : ((0 : Int) ≤ (i 6275).toInt) ∧ ((i 6275).toInt ≤ 1) := hG.I.1 6275
  have fi_6274 : ((0 : Int) ≤ (i 6274).toInt) ∧ ((i 6274).toInt ≤ 120) := hG.I.1 6274
  have fi_6273 : ((0 : Int) ≤ (i 6273).toInt) ∧ ((i 6273).toInt ≤ 120) := hG.I.1 6273
  have z3 : (((-1) : Int) ≤ vg2.toInt) ∧ (vg2.toInt ≤ 255) ∧ ((vg2.toInt = (-1)) ∨ (((i 6275).toInt = 0) ∧ ((i 6274).toInt < (i 6273).toInt))) := hg2
  have q4 : vg2 = cHr t nn (i 6274) (i 6275) := og2
  have hv5 : vg2.toInt = (cHr t nn (i 6274) (i 6275)).toInt := congrArg Int32.toInt og2
  refine ft_go mi_k46 1 5 [(0, .ref 98), (1, .int x1)] [.int x1, .int vg2] i a q r (by rfl) ?_
  refine ft_if mi_k46 (vg2 == x1) 10 8 [(0, .ref 98), (1, .int x1)] [] (by rfl) (fun c => ?_) (fun c => ?_)
  ·
    have c6 : vg2.toInt = x1.toInt := kd_eq c; clear c
    have s7 : ((i 6274) + 1).toInt = (i 6274).toInt + (1 : Int32).toInt := kd_add (op18 fi_6274.1 kop1) (op26 fi_6274.2 kop1)
    have hJ8 := kG_i hG 6274 rfl (v := ((i 6274) + 1)) ⟨(op20 fi_6274.1 s7 kop1), (op89 c6 fi_6273.2 hp0 s7 z3.2.2 kop1)⟩
    refine ft_go mi_k46 7 21 [(0, .ref 98), (1, .int x1)] [.int 1] (ku i 6274 ((i 6274) + 1)) a q r (by rfl) ?_
    exact ft_ret mi_k46 (by rfl) (hP 1 _ _ _ _ hJ8 ⟨(op90 c6 fi_6275.1 hp0 s7 z3.2.2 kop1), (tkP_y (op91 c6 hv5))⟩)
  ·
    have c9 : vg2.toInt ≠ x1.toInt := kd_eqF c; clear c
    refine ft_go mi_k46 1 9 [(0, .ref 98), (1, .int x1)] [.int 0] i a q r (by rfl) ?_
    exact ft_ret mi_k46 (by rfl) (hP 0 _ _ _ _ hG ⟨(op92 kop0), (tkP_n (op93 c9 hv5))⟩)
set_option maxRecDepth 100000 in
theorem ke230_1000012 {i : Nat → Int32} {a : Nat → List Int32} {q : Nat → List Int64} {r : Nat → Nat} (hI : kI i a q) (hr : kr r)  : km 1 230 [.ref (mi_RO + 12)] (ks i a q r) (kPI (ks i a q r) (fun v => v.toInt = 0)) := by
  have hG := kG_self kW0 hI hr
  refine km_ofPI (q := (mi_h230, mi_c230)) rfl (by decide) (Nat.le_of_ble_eq_true rfl) ?_
  intro P hP
  refine ft_go mi_k230 5 14 [(0, .ref (mi_RO + 12))] [.int 0] i a q r (by rfl) ?_
  exact ft_ret mi_k230 (by rfl) (hP 0 (op41 kop0))
set_option maxRecDepth 100000 in
theorem ke227_1000012 {i : Nat → Int32} {a : Nat → List Int32} {q : Nat → List Int64} {r : Nat → Nat} (hI : kI i a q) (hr : kr r)  : km 3 227 [.ref (mi_RO + 12)] (ks i a q r) (kPI (ks i a q r) (fun v => v.toInt = 3)) := by
  have hG := kG_self kW0 hI hr
  refine km_ofPI (q := (mi_h227, mi_c227)) rfl (by decide) (Nat.le_of_ble_eq_true rfl) ?_
  intro P hP
  first | refine ft_go mi_k227 4 6 [(0, .ref (mi_RO + 12))] [.ref (mi_RO + 12), .int 3] i a q r (by rfl) ?_ | refine ko_steps mi_in227 4 _ (6, [(0, .ref (mi_RO + 12))], [.ref (mi_RO + 12), .int 3], (0, 0), ks i a q r) (by rfl) ?_
  refine ko_callPI mi_k227.1 (pc := 6) (ls := [(0, .ref (mi_RO + 12))]) (st := [.ref (mi_RO + 12), .int 3]) (h := ks i a q r) (i := (.invokevirtual 335, 3, 230, 0, 9, 0, 32)) (mi_k227.2 _ _ (by rfl)) (ft_invS mi_pq230 (by rfl)) (cy := mi_c230) mi_pq230 rfl (ke230_1000012 hG.I hG.R ) (by decide) ?_
  intro vg1 hg1
  have z2 : vg1.toInt = 0 := hg1
  refine ko_eq (x1 := (9, [(0, .ref (mi_RO + 12))], [.int 0, .int 3], (0, 0), ks i a q r)) (by rw [(kj_eq (op41 z2) (by decide) : vg1 = 0)]) ?_
  first | refine ft_go mi_k227 1 10 [(0, .ref (mi_RO + 12))] [.int ((3 : Int32) >>> ((0 : Int32) &&& 31))] i a q r (by rfl) ?_ | refine ko_steps mi_in227 1 _ (10, [(0, .ref (mi_RO + 12))], [.int ((3 : Int32) >>> ((0 : Int32) &&& 31))], (0, 0), ks i a q r) (by rfl) ?_
  refine ko_eq (x1 := (10, [(0, .ref (mi_RO + 12))], [.int 3], (0, 0), ks i a q r)) (by rw [(by decide : ((3 : Int32) >>> ((0 : Int32) &&& 31) : Int32) = 3)]) ?_
  exact ft_ret mi_k227 (by rfl) (hP 3 (op70 kop3))
set_option maxRecDepth 100000 in
theorem ke234_1000022_l10_l23 {i : Nat → Int32} {a : Nat → List Int32} {q : Nat → List Int64} {r : Nat → Nat} (hI : kI i a q) (hr : kr r) (x2 : Int32) (hp0 : ((0 : Int) ≤ x2.toInt) ∧ (x2.toInt ≤ 255)) : km 1 234 [.ref (mi_RO + 22), .int x2, .int 0, .int 3] (ks i a q r) (kPI (ks i a q r) (fun v => (((-1) : Int) ≤ v.toInt) ∧ (v.toInt ≤ 2) ∧ (((x2.toInt = 42) → (v.toInt = 0))) ∧ (((x2.toInt = 47) → (v.toInt = 1))) ∧ (((x2.toInt = 37) → (v.toInt = 2))) ∧ (((v.toInt = 0) → (x2.toInt = 42))) ∧ (((v.toInt = 1) → (x2.toInt = 47))) ∧ (((v.toInt = 2) → (x2.toInt = 37))) ∧ ((v.toInt = (-1)) ∨ (x2.toInt = 42) ∨ (x2.toInt = 47) ∨ (x2.toInt = 37)))) := by
  have hG := kG_self kW0 hI hr
  refine km_ofPI (q := (mi_h234, mi_c234)) rfl (by decide) (Nat.le_of_ble_eq_true rfl) ?_
  intro P hP
  have s1 : ((x2.toInt ≤ 127 → x2.toInt8.toInt32.toInt = x2.toInt)) ∧ ((128 ≤ x2.toInt → x2.toInt8.toInt32.toInt = x2.toInt - 256)) := kd_i2b (op4 hp0.1) (op40 hp0.2)
  first | refine ft_go mi_k234 12 19 [(5, .int 0), (4, .int x2.toInt8.toInt32), (0, .ref (mi_RO + 22)), (1, .int x2), (2, .int 0), (3, .int 3)] [.int x2.toInt8.toInt32, .int 42] i a q r (by rfl) ?_ | refine ko_steps mi_in234 12 _ (19, [(5, .int 0), (4, .int x2.toInt8.toInt32), (0, .ref (mi_RO + 22)), (1, .int x2), (2, .int 0), (3, .int 3)], [.int x2.toInt8.toInt32, .int 42], (0, 0), ks i a q r) (by rfl) ?_
  refine ft_if mi_k234 (42 != x2.toInt8.toInt32) 25 22 [(5, .int 0), (4, .int x2.toInt8.toInt32), (0, .ref (mi_RO + 22)), (1, .int x2), (2, .int 0), (3, .int 3)] [] (by rfl) (fun c => ?_) (fun c => ?_)
  ·
    have c2 : (42 : Int32).toInt ≠ x2.toInt8.toInt32.toInt := kd_ne c; clear c
    first | refine ft_go mi_k234 1 28 [(5, .int (0 + 1)), (4, .int x2.toInt8.toInt32), (0, .ref (mi_RO + 22)), (1, .int x2), (2, .int 0), (3, .int 3)] [] i a q r (by rfl) ?_ | refine ko_steps mi_in234 1 _ (28, [(5, .int (0 + 1)), (4, .int x2.toInt8.toInt32), (0, .ref (mi_RO + 22)), (1, .int x2), (2, .int 0), (3, .int 3)], [], (0, 0), ks i a q r) (by rfl) ?_
    refine ko_eq (x1 := (28, [(5, .int 1), (4, .int x2.toInt8.toInt32), (0, .ref (mi_RO + 22)), (1, .int x2), (2, .int 0), (3, .int 3)], [], (0, 0), ks i a q r)) (by rw [(by decide : (0 + 1 : Int32) = 1)]) ?_
    first | refine ft_go mi_k234 8 19 [(5, .int 1), (4, .int x2.toInt8.toInt32), (0, .ref (mi_RO + 22)), (1, .int x2), (2, .int 0), (3, .int 3)] [.int x2.toInt8.toInt32, .int 47] i a q r (by rfl) ?_ | refine ko_steps mi_in234 8 _ (19, [(5, .int 1), (4, .int x2.toInt8.toInt32), (0, .ref (mi_RO + 22)), (1, .int x2), (2, .int 0), (3, .int 3)], [.int x2.toInt8.toInt32, .int 47], (0, 0), ks i a q r) (by rfl) ?_
    refine ft_if mi_k234 (47 != x2.toInt8.toInt32) 25 22 [(5, .int 1), (4, .int x2.toInt8.toInt32), (0, .ref (mi_RO + 22)), (1, .int x2), (2, .int 0), (3, .int 3)] [] (by rfl) (fun c => ?_) (fun c => ?_)
    ·
      have c3 : (47 : Int32).toInt ≠ x2.toInt8.toInt32.toInt := kd_ne c; clear c
      first | refine ft_go mi_k234 1 28 [(5, .int (1 + 1)), (4, .int x2.toInt8.toInt32), (0, .ref (mi_RO + 22)), (1, .int x2), (2, .int 0), (3, .int 3)] [] i a q r (by rfl) ?_ | refine ko_steps mi_in234 1 _ (28, [(5, .int (1 + 1)), (4, .int x2.toInt8.toInt32), (0, .ref (mi_RO + 22)), (1, .int x2), (2, .int 0), (3, .int 3)], [], (0, 0), ks i a q r) (by rfl) ?_
      refine ko_eq (x1 := (28, [(5, .int 2), (4, .int x2.toInt8.toInt32), (0, .ref (mi_RO + 22)), (1, .int x2), (2, .int 0), (3, .int 3)], [], (0, 0), ks i a q r)) (by rw [(by decide : (1 + 1 : Int32) = 2)]) ?_
      first | refine ft_go mi_k234 8 19 [(5, .int 2), (4, .int x2.toInt8.toInt32), (0, .ref (mi_RO + 22)), (1, .int x2), (2, .int 0), (3, .int 3)] [.int x2.toInt8.toInt32, .int 37] i a q r (by rfl) ?_ | refine ko_steps mi_in234 8 _ (19, [(5, .int 2), (4, .int x2.toInt8.toInt32), (0, .ref (mi_RO + 22)), (1, .int x2), (2, .int 0), (3, .int 3)], [.int x2.toInt8.toInt32, .int 37], (0, 0), ks i a q r) (by rfl) ?_
      refine ft_if mi_k234 (37 != x2.toInt8.toInt32) 25 22 [(5, .int 2), (4, .int x2.toInt8.toInt32), (0, .ref (mi_RO + 22)), (1, .int x2), (2, .int 0), (3, .int 3)] [] (by rfl) (fun c => ?_) (fun c => ?_)
      ·
        have c4 : (37 : Int32).toInt ≠ x2.toInt8.toInt32.toInt := kd_ne c; clear c
        first | refine ft_go mi_k234 1 28 [(5, .int (2 + 1)), (4, .int x2.toInt8.toInt32), (0, .ref (mi_RO + 22)), (1, .int x2), (2, .int 0), (3, .int 3)] [] i a q r (by rfl) ?_ | refine ko_steps mi_in234 1 _ (28, [(5, .int (2 + 1)), (4, .int x2.toInt8.toInt32), (0, .ref (mi_RO + 22)), (1, .int x2), (2, .int 0), (3, .int 3)], [], (0, 0), ks i a q r) (by rfl) ?_
        refine ko_eq (x1 := (28, [(5, .int 3), (4, .int x2.toInt8.toInt32), (0, .ref (mi_RO + 22)), (1, .int x2), (2, .int 0), (3, .int 3)], [], (0, 0), ks i a q r)) (by rw [(by decide : (2 + 1 : Int32) = 3)]) ?_
        first | refine ft_go mi_k234 5 32 [(5, .int 3), (4, .int x2.toInt8.toInt32), (0, .ref (mi_RO + 22)), (1, .int x2), (2, .int 0), (3, .int 3)] [.int (-1)] i a q r (by rfl) ?_ | refine ko_steps mi_in234 5 _ (32, [(5, .int 3), (4, .int x2.toInt8.toInt32), (0, .ref (mi_RO + 22)), (1, .int x2), (2, .int 0), (3, .int 3)], [.int (-1)], (0, 0), ks i a q r) (by rfl) ?_
        exact ft_ret mi_k234 (by rfl) (hP (-1) (op108 c2 c3 c4 s1.1 kop42 kop47 kop37 kopm1))
      ·
        have c5 : (37 : Int32).toInt = x2.toInt8.toInt32.toInt := kd_neF c; clear c
        first | refine ft_go mi_k234 1 24 [(5, .int 2), (4, .int x2.toInt8.toInt32), (0, .ref (mi_RO + 22)), (1, .int x2), (2, .int 0), (3, .int 3)] [.int 2] i a q r (by rfl) ?_ | refine ko_steps mi_in234 1 _ (24, [(5, .int 2), (4, .int x2.toInt8.toInt32), (0, .ref (mi_RO + 22)), (1, .int x2), (2, .int 0), (3, .int 3)], [.int 2], (0, 0), ks i a q r) (by rfl) ?_
        exact ft_ret mi_k234 (by rfl) (hP 2 (op109 c5 hp0.2 s1.1 s1.2 kop37 kop2))
    ·
      have c6 : (47 : Int32).toInt = x2.toInt8.toInt32.toInt := kd_neF c; clear c
      first | refine ft_go mi_k234 1 24 [(5, .int 1), (4, .int x2.toInt8.toInt32), (0, .ref (mi_RO + 22)), (1, .int x2), (2, .int 0), (3, .int 3)] [.int 1] i a q r (by rfl) ?_ | refine ko_steps mi_in234 1 _ (24, [(5, .int 1), (4, .int x2.toInt8.toInt32), (0, .ref (mi_RO + 22)), (1, .int x2), (2, .int 0), (3, .int 3)], [.int 1], (0, 0), ks i a q r) (by rfl) ?_
      exact ft_ret mi_k234 (by rfl) (hP 1 (op110 c6 hp0.2 s1.1 s1.2 kop47 kop1))
  ·
    have c7 : (42 : Int32).toInt = x2.toInt8.toInt32.toInt := kd_neF c; clear c
    first | refine ft_go mi_k234 1 24 [(5, .int 0), (4, .int x2.toInt8.toInt32), (0, .ref (mi_RO + 22)), (1, .int x2), (2, .int 0), (3, .int 3)] [.int 0] i a q r (by rfl) ?_ | refine ko_steps mi_in234 1 _ (24, [(5, .int 0), (4, .int x2.toInt8.toInt32), (0, .ref (mi_RO + 22)), (1, .int x2), (2, .int 0), (3, .int 3)], [.int 0], (0, 0), ks i a q r) (by rfl) ?_
    exact ft_ret mi_k234 (by rfl) (hP 0 (op111 c7 hp0.2 s1.1 s1.2 kop42 kop0))
set_option maxRecDepth 100000 in
theorem ke233_1000022_l10_l23 {i : Nat → Int32} {a : Nat → List Int32} {q : Nat → List Int64} {r : Nat → Nat} (hI : kI i a q) (hr : kr r) (x2 : Int32) (hp0 : ((0 : Int) ≤ x2.toInt) ∧ (x2.toInt ≤ 255)) : km 3 233 [.ref (mi_RO + 22), .int x2, .int 0, .int 3] (ks i a q r) (kPI (ks i a q r) (fun v => (((-1) : Int) ≤ v.toInt) ∧ (v.toInt ≤ 2) ∧ (((x2.toInt = 42) → (v.toInt = 0))) ∧ (((x2.toInt = 47) → (v.toInt = 1))) ∧ (((x2.toInt = 37) → (v.toInt = 2))) ∧ (((v.toInt = 0) → (x2.toInt = 42))) ∧ (((v.toInt = 1) → (x2.toInt = 47))) ∧ (((v.toInt = 2) → (x2.toInt = 37))) ∧ ((v.toInt = (-1)) ∨ (x2.toInt = 42) ∨ (x2.toInt = 47) ∨ (x2.toInt = 37)))) := by
  have hG := kG_self kW0 hI hr
  refine km_ofPI (q := (mi_h233, mi_c233)) rfl (by decide) (Nat.le_of_ble_eq_true rfl) ?_
  intro P hP
  first | refine ft_go mi_k233 1 1 [(0, .ref (mi_RO + 22)), (1, .int x2), (2, .int 0), (3, .int 3)] [.int x2] i a q r (by rfl) ?_ | refine ko_steps mi_in233 1 _ (1, [(0, .ref (mi_RO + 22)), (1, .int x2), (2, .int 0), (3, .int 3)], [.int x2], (0, 0), ks i a q r) (by rfl) ?_
  refine ko_callPI mi_k233.1 (pc := 1) (ls := [(0, .ref (mi_RO + 22)), (1, .int x2), (2, .int 0), (3, .int 3)]) (st := [.int x2]) (h := ks i a q r) (i := (.invokestatic 88, 3, 232, 0, 9, 0, 195)) (mi_k233.2 _ _ (by rfl)) (ft_invS mi_pq232 (by rfl)) (cy := mi_c232) mi_pq232 rfl (ke232 hG.I hG.R x2) (by decide) ?_
  intro vg1 hg1
  rcases hg1 with ⟨eg1, hg1⟩ | ⟨eg1, hg1⟩
  ·
    subst eg1
    have z2 : ((0 : Int) ≤ x2.toInt) ∧ (x2.toInt ≤ 255) := hg1
    first | refine ft_go mi_k233 4 14 [(0, .ref (mi_RO + 22)), (1, .int x2), (2, .int 0), (3, .int 3)] [.int (bif decide ((0 : Int32) < 0) then 0 else 0)] i a q r (by rfl) ?_ | refine ko_steps mi_in233 4 _ (14, [(0, .ref (mi_RO + 22)), (1, .int x2), (2, .int 0), (3, .int 3)], [.int (bif decide ((0 : Int32) < 0) then 0 else 0)], (0, 0), ks i a q r) (by rfl) ?_
    refine ko_eq (x1 := (14, [(0, .ref (mi_RO + 22)), (1, .int x2), (2, .int 0), (3, .int 3)], [.int 0], (0, 0), ks i a q r)) (by rw [(by decide : (bif decide ((0 : Int32) < 0) then 0 else 0 : Int32) = 0)]) ?_
    first | refine ft_go mi_k233 5 21 [(2, .int 0), (0, .ref (mi_RO + 22)), (1, .int x2), (3, .int 3)] [.int (bif decide ((3 : Int32) < 3) then 3 else 3)] i a q r (by rfl) ?_ | refine ko_steps mi_in233 5 _ (21, [(2, .int 0), (0, .ref (mi_RO + 22)), (1, .int x2), (3, .int 3)], [.int (bif decide ((3 : Int32) < 3) then 3 else 3)], (0, 0), ks i a q r) (by rfl) ?_
    refine ko_eq (x1 := (21, [(2, .int 0), (0, .ref (mi_RO + 22)), (1, .int x2), (3, .int 3)], [.int 3], (0, 0), ks i a q r)) (by rw [(by decide : (bif decide ((3 : Int32) < 3) then 3 else 3 : Int32) = 3)]) ?_
    first | refine ft_go mi_k233 8 33 [(3, .int 3), (2, .int 0), (0, .ref (mi_RO + 22)), (1, .int x2)] [.int 3, .int 0, .int x2, .ref (mi_RO + 22)] i a q r (by rfl) ?_ | refine ko_steps mi_in233 8 _ (33, [(3, .int 3), (2, .int 0), (0, .ref (mi_RO + 22)), (1, .int x2)], [.int 3, .int 0, .int x2, .ref (mi_RO + 22)], (0, 0), ks i a q r) (by rfl) ?_
    refine ko_callPI mi_k233.1 (pc := 33) (ls := [(3, .int 3), (2, .int 0), (0, .ref (mi_RO + 22)), (1, .int x2)]) (st := [.int 3, .int 0, .int x2, .ref (mi_RO + 22)]) (h := ks i a q r) (i := (.invokestatic 95, 3, 234, 0, 9, 0, 198)) (mi_k233.2 _ _ (by rfl)) (ft_invS mi_pq234 (by rfl)) (cy := mi_c234) mi_pq234 rfl (ke234_1000022_l10_l23 hG.I hG.R x2 (op53 hp0.1 hp0.2)) (by decide) ?_
    intro vg3 hg3
    have z4 : (((-1) : Int) ≤ vg3.toInt) ∧ (vg3.toInt ≤ 2) ∧ (((x2.toInt = 42) → (vg3.toInt = 0))) ∧ (((x2.toInt = 47) → (vg3.toInt = 1))) ∧ (((x2.toInt = 37) → (vg3.toInt = 2))) ∧ (((vg3.toInt = 0) → (x2.toInt = 42))) ∧ (((vg3.toInt = 1) → (x2.toInt = 47))) ∧ (((vg3.toInt = 2) → (x2.toInt = 37))) ∧ ((vg3.toInt = (-1)) ∨ (x2.toInt = 42) ∨ (x2.toInt = 47) ∨ (x2.toInt = 37)) := hg3
    exact ft_ret mi_k233 (by rfl) (hP vg3 (op112 z4.1 z4.2.1 z4.2.2.1 z4.2.2.2.1 z4.2.2.2.2.1 z4.2.2.2.2.2.1 z4.2.2.2.2.2.2.1 z4.2.2.2.2.2.2.2.1 z4.2.2.2.2.2.2.2.2))
  ·
    subst eg1
    have z5 : ¬ (((0 : Int) ≤ x2.toInt) ∧ (x2.toInt ≤ 255)) := hg1
    exact (op55 hp0.1 hp0.2 z5).elim
set_option maxRecDepth 100000 in
theorem ke229_1000012_l10 {i : Nat → Int32} {a : Nat → List Int32} {q : Nat → List Int64} {r : Nat → Nat} (hI : kI i a q) (hr : kr r) (x1 : Int32) (hp0 : ((0 : Int) ≤ x1.toInt) ∧ (x1.toInt ≤ 255)) : km 5 229 [.ref (mi_RO + 12), .int x1, .int 0] (ks i a q r) (kPI (ks i a q r) (fun v => (((-1) : Int) ≤ v.toInt) ∧ (v.toInt ≤ 2) ∧ (((x1.toInt = 42) → (v.toInt = 0))) ∧ (((x1.toInt = 47) → (v.toInt = 1))) ∧ (((x1.toInt = 37) → (v.toInt = 2))) ∧ (((v.toInt = 0) → (x1.toInt = 42))) ∧ (((v.toInt = 1) → (x1.toInt = 47))) ∧ (((v.toInt = 2) → (x1.toInt = 37))) ∧ ((v.toInt = (-1)) ∨ (x1.toInt = 42) ∨ (x1.toInt = 47) ∨ (x1.toInt = 37)))) := by
  have hG := kG_self kW0 hI hr
  refine km_ofPI (q := (mi_h229, mi_c229)) rfl (by decide) (Nat.le_of_ble_eq_true rfl) ?_
  intro P hP
  refine ft_go mi_k229 1 1 [(0, .ref (mi_RO + 12)), (1, .int x1), (2, .int 0)] [.ref (mi_RO + 12)] i a q r (by rfl) ?_
  refine ko_callPI mi_k229.1 (pc := 1) (ls := [(0, .ref (mi_RO + 12)), (1, .int x1), (2, .int 0)]) (st := [.ref (mi_RO + 12)]) (h := ks i a q r) (i := (.invokevirtual 492, 3, 231, 0, 9, 0, 192)) (mi_k229.2 _ _ (by rfl)) (ft_invS mi_pq231 (by rfl)) (cy := mi_c231) mi_pq231 rfl (kc231_S12 hG.I hG.R ) (by decide) ?_
  intro vg1 hg1
  rcases hg1 with ⟨eg1, hg1⟩ | ⟨eg1, hg1⟩
  ·
    subst eg1
    refine ft_go mi_k229 6 14 [(0, .ref (mi_RO + 12)), (1, .int x1), (2, .int 0)] [.ref (mi_RO + 12), .int 0, .int x1, .ref (mi_RO + 22)] i a q r (by rfl) ?_
    refine ko_callPI mi_k229.1 (pc := 14) (ls := [(0, .ref (mi_RO + 12)), (1, .int x1), (2, .int 0)]) (st := [.ref (mi_RO + 12), .int 0, .int x1, .ref (mi_RO + 22)]) (h := ks i a q r) (i := (.invokevirtual 505, 3, 227, 0, 9, 0, 193)) (mi_k229.2 _ _ (by rfl)) (ft_invS mi_pq227 (by rfl)) (cy := mi_c227) mi_pq227 rfl (ke227_1000012 hG.I hG.R ) (by decide) ?_
    intro vg2 hg2
    have z3 : vg2.toInt = 3 := hg2
    refine ko_eq (x1 := (17, [(0, .ref (mi_RO + 12)), (1, .int x1), (2, .int 0)], [.int 3, .int 0, .int x1, .ref (mi_RO + 22)], (0, 0), ks i a q r)) (by rw [(kj_eq (op70 z3) (by decide) : vg2 = 3)]) ?_
    refine ko_callPI mi_k229.1 (pc := 17) (ls := [(0, .ref (mi_RO + 12)), (1, .int x1), (2, .int 0)]) (st := [.int 3, .int 0, .int x1, .ref (mi_RO + 22)]) (h := ks i a q r) (i := (.invokestatic 637, 3, 233, 0, 9, 0, 194)) (mi_k229.2 _ _ (by rfl)) (ft_invS mi_pq233 (by rfl)) (cy := mi_c233) mi_pq233 rfl (ke233_1000022_l10_l23 hG.I hG.R x1 (op53 hp0.1 hp0.2)) (by decide) ?_
    intro vg4 hg4
    have z5 : (((-1) : Int) ≤ vg4.toInt) ∧ (vg4.toInt ≤ 2) ∧ (((x1.toInt = 42) → (vg4.toInt = 0))) ∧ (((x1.toInt = 47) → (vg4.toInt = 1))) ∧ (((x1.toInt = 37) → (vg4.toInt = 2))) ∧ (((vg4.toInt = 0) → (x1.toInt = 42))) ∧ (((vg4.toInt = 1) → (x1.toInt = 47))) ∧ (((vg4.toInt = 2) → (x1.toInt = 37))) ∧ ((vg4.toInt = (-1)) ∨ (x1.toInt = 42) ∨ (x1.toInt = 47) ∨ (x1.toInt = 37)) := hg4
    refine ft_go mi_k229 1 36 [(0, .ref (mi_RO + 12)), (1, .int x1), (2, .int 0)] [.int vg4] i a q r (by rfl) ?_
    exact ft_ret mi_k229 (by rfl) (hP vg4 (op112 z5.1 z5.2.1 z5.2.2.1 z5.2.2.2.1 z5.2.2.2.2.1 z5.2.2.2.2.2.1 z5.2.2.2.2.2.2.1 z5.2.2.2.2.2.2.2.1 z5.2.2.2.2.2.2.2.2))
  ·
    subst eg1
    have z6 : (2 : Int) ≤ 1 := hg1
    exact (op56 z6).elim
set_option maxRecDepth 100000 in
theorem ke228_1000012 {i : Nat → Int32} {a : Nat → List Int32} {q : Nat → List Int64} {r : Nat → Nat} (hI : kI i a q) (hr : kr r) (x1 : Int32) (hp0 : ((0 : Int) ≤ x1.toInt) ∧ (x1.toInt ≤ 255)) : km 7 228 [.ref (mi_RO + 12), .int x1] (ks i a q r) (kPI (ks i a q r) (fun v => (((-1) : Int) ≤ v.toInt) ∧ (v.toInt ≤ 2) ∧ (((x1.toInt = 42) → (v.toInt = 0))) ∧ (((x1.toInt = 47) → (v.toInt = 1))) ∧ (((x1.toInt = 37) → (v.toInt = 2))) ∧ (((v.toInt = 0) → (x1.toInt = 42))) ∧ (((v.toInt = 1) → (x1.toInt = 47))) ∧ (((v.toInt = 2) → (x1.toInt = 37))) ∧ ((v.toInt = (-1)) ∨ (x1.toInt = 42) ∨ (x1.toInt = 47) ∨ (x1.toInt = 37)))) := by
  have hG := kG_self kW0 hI hr
  refine km_ofPI (q := (mi_h228, mi_c228)) rfl (by decide) (Nat.le_of_ble_eq_true rfl) ?_
  intro P hP
  refine ft_go mi_k228 3 3 [(0, .ref (mi_RO + 12)), (1, .int x1)] [.int 0, .int x1, .ref (mi_RO + 12)] i a q r (by rfl) ?_
  refine ko_callPI mi_k228.1 (pc := 3) (ls := [(0, .ref (mi_RO + 12)), (1, .int x1)]) (st := [.int 0, .int x1, .ref (mi_RO + 12)]) (h := ks i a q r) (i := (.invokevirtual 633, 3, 229, 0, 9, 0, 191)) (mi_k228.2 _ _ (by rfl)) (ft_invS mi_pq229 (by rfl)) (cy := mi_c229) mi_pq229 rfl (ke229_1000012_l10 hG.I hG.R x1 (op53 hp0.1 hp0.2)) (by decide) ?_
  intro vg1 hg1
  have z2 : (((-1) : Int) ≤ vg1.toInt) ∧ (vg1.toInt ≤ 2) ∧ (((x1.toInt = 42) → (vg1.toInt = 0))) ∧ (((x1.toInt = 47) → (vg1.toInt = 1))) ∧ (((x1.toInt = 37) → (vg1.toInt = 2))) ∧ (((vg1.toInt = 0) → (x1.toInt = 42))) ∧ (((vg1.toInt = 1) → (x1.toInt = 47))) ∧ (((vg1.toInt = 2) → (x1.toInt = 37))) ∧ ((vg1.toInt = (-1)) ∨ (x1.toInt = 42) ∨ (x1.toInt = 47) ∨ (x1.toInt = 37)) := hg1
  exact ft_ret mi_k228 (by rfl) (hP vg1 (op112 z2.1 z2.2.1 z2.2.2.1 z2.2.2.2.1 z2.2.2.2.2.1 z2.2.2.2.2.2.1 z2.2.2.2.2.2.2.1 z2.2.2.2.2.2.2.2.1 z2.2.2.2.2.2.2.2.2))
def yw47_98_1000012 : kW := ([6274], [], [], [])
set_option maxRecDepth 100000 in
theorem ke47_98_1000012 {i : Nat → Int32} {a : Nat → List Int32} {q : Nat → List Int64} {r : Nat → Nat} (hI : kI i a q) (hr : kr r) (t : List Int32) (nn : Int32) (hT : a 99 = t) (hN : i 6273 = nn) (hX : kBy t) : km 9 47 [.ref 98, .ref (mi_RO + 12)] (ks i a q r) (kVI yw47_98_1000012 i a q r (fun v i1 a1 q1 r1 => (((v.toInt = (-1)) ∧ ((i1 6274).toInt = (i 6274).toInt)) ∨ (((i1 6274).toInt = ((i 6274).toInt + 1)) ∧ ((i 6274).toInt < (i 6273).toInt) ∧ ((i 6275).toInt = 0) ∧ ((v.toInt = 42) ∨ (v.toInt = 47) ∨ (v.toInt = 37)))) ∧ (v, i1 6274) = cOfP t nn oMul (i 6274) (i 6275))) := by
  have hG := kG_self yw47_98_1000012 hI hr
  refine km_ofI (q := (mi_h47, mi_c47)) rfl (by decide) (Nat.le_of_ble_eq_true rfl) ?_
  intro P hP
  have hn1 : (i 6273).toInt = nn.toInt := congrArg Int32.toInt hN
  refine ft_go mi_k47 1 1 [(0, .ref 98), (1, .ref (mi_RO + 12))] [.ref 98] i a q r (by rfl) ?_
  refine ko_callPI mi_k47.1 (pc := 1) (ls := [(0, .ref 98), (1, .ref (mi_RO + 12))]) (st := [.ref 98]) (h := ks i a q r) (i := (.invokevirtual 46, 3, 45, 0, 9, 0, 184)) (mi_k47.2 _ _ (by rfl)) (ft_invS mi_pq45 (by rfl)) (cy := mi_c45) mi_pq45 rfl (ke45_98 hG.I hG.R t nn hT hN hX) (by decide) ?_
  intro vg2 hg2
  obtain ⟨hg2, og2⟩ := hg2
  have fi_6275 : ((0 : Int) ≤ (i 6275).toInt) ∧ ((i 6275).toInt ≤ 1) := hG.I.1 6275
  have fi_6274 : ((0 : Int) ≤ (i 6274).toInt) ∧ ((i 6274).toInt ≤ 120) := hG.I.1 6274
  have fi_6273 : ((0 : Int) ≤ (i 6273).toInt) ∧ ((i 6273).toInt ≤ 120) := hG.I.1 6273
  have z3 : (((-1) : Int) ≤ vg2.toInt) ∧ (vg2.toInt ≤ 255) ∧ ((vg2.toInt = (-1)) ∨ (((i 6275).toInt = 0) ∧ ((i 6274).toInt < (i 6273).toInt))) := hg2
  have q4 : vg2 = cHr t nn (i 6274) (i 6275) := og2
  have hv5 : vg2.toInt = (cHr t nn (i 6274) (i 6275)).toInt := congrArg Int32.toInt og2
  refine ft_go mi_k47 3 7 [(2, .int vg2), (0, .ref 98), (1, .ref (mi_RO + 12))] [.int (-1), .int vg2] i a q r (by rfl) ?_
  refine ft_if mi_k47 (vg2 == (-1)) 19 10 [(2, .int vg2), (0, .ref 98), (1, .ref (mi_RO + 12))] [] (by rfl) (fun c => ?_) (fun c => ?_)
  ·
    have c6 : vg2.toInt = ((-1) : Int32).toInt := kd_eq c; clear c
    refine ft_go mi_k47 1 20 [(2, .int vg2), (0, .ref 98), (1, .ref (mi_RO + 12))] [.int (-1)] i a q r (by rfl) ?_
    exact ft_ret mi_k47 (by rfl) (hP (-1) _ _ _ _ hG ⟨(op106 kopm1), (ofP_n (o := oMul) (decide_eq_false (op107 c6 hv5 kopm1)))⟩)
  ·
    have c7 : vg2.toInt ≠ ((-1) : Int32).toInt := kd_eqF c; clear c
    have s8 : ((vg2.toUInt32 % 65536).toInt32).toInt = vg2.toInt := kd_i2c (op39 c7 z3.1 kopm1) (Int.le_trans (op40 z3.2.1) (by decide))
    refine ft_go mi_k47 3 13 [(2, .int vg2), (0, .ref 98), (1, .ref (mi_RO + 12))] [.int ((vg2.toUInt32 % 65536).toInt32), .ref (mi_RO + 12)] i a q r (by rfl) ?_
    refine ko_callPI mi_k47.1 (pc := 13) (ls := [(2, .int vg2), (0, .ref 98), (1, .ref (mi_RO + 12))]) (st := [.int ((vg2.toUInt32 % 65536).toInt32), .ref (mi_RO + 12)]) (h := ks i a q r) (i := (.invokevirtual 50, 3, 228, 0, 9, 0, 190)) (mi_k47.2 _ _ (by rfl)) (ft_invS mi_pq228 (by rfl)) (cy := mi_c228) mi_pq228 rfl (ke228_1000012 hG.I hG.R ((vg2.toUInt32 % 65536).toInt32) (op57 c7 s8 z3.1 z3.2.1 kopm1)) (by decide) ?_
    intro vg9 hg9
    have z10 : (((-1) : Int) ≤ vg9.toInt) ∧ (vg9.toInt ≤ 2) ∧ (((((vg2.toUInt32 % 65536).toInt32).toInt = 42) → (vg9.toInt = 0))) ∧ (((((vg2.toUInt32 % 65536).toInt32).toInt = 47) → (vg9.toInt = 1))) ∧ (((((vg2.toUInt32 % 65536).toInt32).toInt = 37) → (vg9.toInt = 2))) ∧ (((vg9.toInt = 0) → (((vg2.toUInt32 % 65536).toInt32).toInt = 42))) ∧ (((vg9.toInt = 1) → (((vg2.toUInt32 % 65536).toInt32).toInt = 47))) ∧ (((vg9.toInt = 2) → (((vg2.toUInt32 % 65536).toInt32).toInt = 37))) ∧ ((vg9.toInt = (-1)) ∨ (((vg2.toUInt32 % 65536).toInt32).toInt = 42) ∨ (((vg2.toUInt32 % 65536).toInt32).toInt = 47) ∨ (((vg2.toUInt32 % 65536).toInt32).toInt = 37)) := hg9
    refine ft_if mi_k47 (decide (0 ≤ vg9)) 21 19 [(2, .int vg2), (0, .ref 98), (1, .ref (mi_RO + 12))] [] (by rfl) (fun c => ?_) (fun c => ?_)
    ·
      have c11 : (0 : Int32).toInt ≤ vg9.toInt := kd_le c; clear c
      have s12 : ((i 6274) + 1).toInt = (i 6274).toInt + (1 : Int32).toInt := kd_add (op18 fi_6274.1 kop1) (op26 fi_6274.2 kop1)
      have hJ13 := kG_i hG 6274 rfl (v := ((i 6274) + 1)) ⟨(op20 fi_6274.1 s12 kop1), (op58 c7 fi_6273.2 s12 z3.1 z3.2.2 kopm1 kop1)⟩
      refine ft_go mi_k47 7 32 [(2, .int vg2), (0, .ref 98), (1, .ref (mi_RO + 12))] [.int vg2] (ku i 6274 ((i 6274) + 1)) a q r (by rfl) ?_
      exact ft_ret mi_k47 (by rfl) (hP vg2 _ _ _ _ hJ13 ⟨(op113 c11 c7 fi_6275.1 s12 s8 z10.2.1 z10.2.2.1 z10.2.2.2.2.2.1 z10.2.2.2.2.2.2.1 z10.2.2.2.2.2.2.2.1 z3.1 z3.2.2 kop0 kopm1 kop1), (ofP_y (o := oMul) (decide_eq_true (op114 c11 hv5 s8 z10.2.1 z10.2.2.1 z10.2.2.2.2.2.1 z10.2.2.2.2.2.2.1 z10.2.2.2.2.2.2.2.1 kop0)) og2)⟩)
    ·
      have c14 : vg9.toInt < (0 : Int32).toInt := kd_leF c; clear c
      refine ft_go mi_k47 1 20 [(2, .int vg2), (0, .ref 98), (1, .ref (mi_RO + 12))] [.int (-1)] i a q r (by rfl) ?_
      exact ft_ret mi_k47 (by rfl) (hP (-1) _ _ _ _ hG ⟨(op106 kopm1), (ofP_n (o := oMul) (decide_eq_false (op115 c14 hv5 s8 z10.2.2.1 z10.2.2.2.1 z10.2.2.2.2.1 kop0)))⟩)
