set_option maxRecDepth 100000 in
theorem ke140_116 {i : Nat → Int32} {a : Nat → List Int32} {q : Nat → List Int64} {r : Nat → Nat} (hI : kI i a q) (hr : kr r) (x1 : Int32) (x2 : Int32) (hp0 : ((0 : Int) ≤ x1.toInt) ∧ (x1.toInt ≤ 7)) (hp1 : ((0 : Int) ≤ x2.toInt) ∧ (x2.toInt ≤ 6)) : km 1 140 [.ref 116, .int x1, .int x2] (ks i a q r) (kPI (ks i a q r) (fun v => (((x2.toInt = 4) → (((1 : Int) ≤ v.toInt) ∧ (v.toInt ≤ 5)))) ∧ v = rGet x1 x2 (a 118, a 117, i 7426, i 7427))) := by
  have hG := kG_self kW0 hI hr
  refine km_ofPI (q := (mi_h140, mi_c140)) rfl (by decide) (Nat.le_of_ble_eq_true rfl) ?_
  intro P hP
  refine ft_go mi_k140 1 1 [(0, .ref 116), (1, .int x1), (2, .int x2)] [.int x2] i a q r (by rfl) ?_
  by_cases w1 : x2.toInt = 0
  ·
    refine ko_eq (x1 := (1, [(0, .ref 116), (1, .int x1), (2, .int x2)], [.int 0], (0, 0), ks i a q r)) (by rw [(kj_eq w1 (by decide) : x2 = 0)]) ?_
    refine ft_go mi_k140 4 49 [(0, .ref 116), (1, .int x1), (2, .int x2)] [.int x1, .ref 118] i a q r (by rfl) ?_
    refine ko_iald3 mi_k140.1 (n := 31) (c := 31) (ax := (0, 0, 0, 0, 0)) (mi_k140.2 _ _ (by rfl)) (by rfl) (ksG118 _ _ _ _) (hG.I.2.1 118) rfl (orm0 hp0.1) (orm1 hp0.2) ?_
    have r2 : ((x1.toInt = 18 → (0 : Int) ≤ ((a 118).getD x1.toNatClampNeg 0).toInt ∧ ((a 118).getD x1.toNatClampNeg 0).toInt ≤ 5)) ∧ ((19 ≤ x1.toInt → x1.toInt ≤ 24 → (0 : Int) ≤ ((a 118).getD x1.toNatClampNeg 0).toInt ∧ ((a 118).getD x1.toNatClampNeg 0).toInt ≤ 7)) := kE_ncond (p := 118) hG.I (by decide) (j := x1) (orm0 hp0.1)
    have bw3 : x2.toInt = 0 := (orm3 hp1.1 w1)
    exact ft_ret mi_k140 (by rfl) (hP ((a 118).getD x1.toNatClampNeg 0) ⟨(orm2 w1), (show ((a 118).getD x1.toNatClampNeg 0) = rGet x1 x2 (a 118, a 117, i 7426, i 7427) from (by unfold rGet; simp only [if_pos bw3]; first | done | rfl | (simp only [sMn, sMx]; done) | (simp only [sMn, sMx]; rfl)))⟩)
  by_cases w4 : x2.toInt = 1
  ·
    refine ko_eq (x1 := (1, [(0, .ref 116), (1, .int x1), (2, .int x2)], [.int 1], (0, 0), ks i a q r)) (by rw [(kj_eq w4 (by decide) : x2 = 1)]) ?_
    have s5 : (8 * x2).toInt = 8 * x2.toInt := kd_cmul 8 korm8 (orm4 w4) (orm5 hp1.2)
    have s6 : ((8 * x2) - 8).toInt = (8 * x2).toInt - (8 : Int32).toInt := kd_sub (orm6 s5 w4 korm8) (orm7 hp1.2 s5 korm8)
    have s7 : (((8 * x2) - 8) + x1).toInt = ((8 * x2) - 8).toInt + x1.toInt := kd_add (orm8 hp0.1 hp1.1 s5 s6 korm8) (orm9 hp0.2 hp1.2 s5 s6 korm8)
    refine ft_go mi_k140 10 82 [(0, .ref 116), (1, .int x1), (2, .int x2)] [.int (((8 * x2) - 8) + x1), .ref 117] i a q r (by rfl) ?_
    refine ko_iald3 mi_k140.1 (n := 24) (c := 24) (ax := (0, 0, 0, 0, 0)) (mi_k140.2 _ _ (by rfl)) (by rfl) (ksG117 _ _ _ _) (hG.I.2.1 117) rfl (orm10 hp0.1 s5 s6 s7 w4 korm8) (orm11 hp0.2 s5 s6 s7 w4 korm8) ?_
    have bw8 : ¬ (x2.toInt = 0) := (orm13 w4)
    have bw9 : ¬ (x2.toInt = 4) := (orm14 w4)
    have bw10 : ¬ (x2.toInt = 5) := (orm15 w4)
    have bw11 : ¬ (x2.toInt = 6) := (orm16 w4)
    exact ft_ret mi_k140 (by rfl) (hP ((a 117).getD (((8 * x2) - 8) + x1).toNatClampNeg 0) ⟨(orm12 w4), (show ((a 117).getD (((8 * x2) - 8) + x1).toNatClampNeg 0) = rGet x1 x2 (a 118, a 117, i 7426, i 7427) from (by unfold rGet; simp only [if_neg bw8, if_neg bw9, if_neg bw10, if_neg bw11]; first | done | rfl | (simp only [sMn, sMx]; done) | (simp only [sMn, sMx]; rfl)))⟩)
  by_cases w12 : x2.toInt = 2
  ·
    refine ko_eq (x1 := (1, [(0, .ref 116), (1, .int x1), (2, .int x2)], [.int 2], (0, 0), ks i a q r)) (by rw [(kj_eq w12 (by decide) : x2 = 2)]) ?_
    have s13 : (8 * x2).toInt = 8 * x2.toInt := kd_cmul 8 korm8 (orm17 w12) (orm5 hp1.2)
    have s14 : ((8 * x2) - 8).toInt = (8 * x2).toInt - (8 : Int32).toInt := kd_sub (orm18 s13 w12 korm8) (orm7 hp1.2 s13 korm8)
    have s15 : (((8 * x2) - 8) + x1).toInt = ((8 * x2) - 8).toInt + x1.toInt := kd_add (orm19 hp0.1 s13 s14 w12 korm8) (orm9 hp0.2 hp1.2 s13 s14 korm8)
    refine ft_go mi_k140 10 82 [(0, .ref 116), (1, .int x1), (2, .int x2)] [.int (((8 * x2) - 8) + x1), .ref 117] i a q r (by rfl) ?_
    refine ko_iald3 mi_k140.1 (n := 24) (c := 24) (ax := (0, 0, 0, 0, 0)) (mi_k140.2 _ _ (by rfl)) (by rfl) (ksG117 _ _ _ _) (hG.I.2.1 117) rfl (orm20 hp0.1 s13 s14 s15 w12 korm8) (orm21 hp0.2 s13 s14 s15 w12 korm8) ?_
    have bw16 : ¬ (x2.toInt = 0) := (orm23 w12)
    have bw17 : ¬ (x2.toInt = 4) := (orm24 w12)
    have bw18 : ¬ (x2.toInt = 5) := (orm25 w12)
    have bw19 : ¬ (x2.toInt = 6) := (orm26 w12)
    exact ft_ret mi_k140 (by rfl) (hP ((a 117).getD (((8 * x2) - 8) + x1).toNatClampNeg 0) ⟨(orm22 w12), (show ((a 117).getD (((8 * x2) - 8) + x1).toNatClampNeg 0) = rGet x1 x2 (a 118, a 117, i 7426, i 7427) from (by unfold rGet; simp only [if_neg bw16, if_neg bw17, if_neg bw18, if_neg bw19]; first | done | rfl | (simp only [sMn, sMx]; done) | (simp only [sMn, sMx]; rfl)))⟩)
  by_cases w20 : x2.toInt = 3
  ·
    refine ko_eq (x1 := (1, [(0, .ref 116), (1, .int x1), (2, .int x2)], [.int 3], (0, 0), ks i a q r)) (by rw [(kj_eq w20 (by decide) : x2 = 3)]) ?_
    have s21 : (8 * x2).toInt = 8 * x2.toInt := kd_cmul 8 korm8 (orm27 w20) (orm5 hp1.2)
    have s22 : ((8 * x2) - 8).toInt = (8 * x2).toInt - (8 : Int32).toInt := kd_sub (orm28 s21 w20 korm8) (orm7 hp1.2 s21 korm8)
    have s23 : (((8 * x2) - 8) + x1).toInt = ((8 * x2) - 8).toInt + x1.toInt := kd_add (orm29 hp0.1 s21 s22 w20 korm8) (orm9 hp0.2 hp1.2 s21 s22 korm8)
    refine ft_go mi_k140 10 82 [(0, .ref 116), (1, .int x1), (2, .int x2)] [.int (((8 * x2) - 8) + x1), .ref 117] i a q r (by rfl) ?_
    refine ko_iald3 mi_k140.1 (n := 24) (c := 24) (ax := (0, 0, 0, 0, 0)) (mi_k140.2 _ _ (by rfl)) (by rfl) (ksG117 _ _ _ _) (hG.I.2.1 117) rfl (orm30 hp0.1 s21 s22 s23 w20 korm8) (orm31 hp0.2 s21 s22 s23 w20 korm8) ?_
    have bw24 : ¬ (x2.toInt = 0) := (orm33 w20)
    have bw25 : ¬ (x2.toInt = 4) := (orm34 w20)
    have bw26 : ¬ (x2.toInt = 5) := (orm35 w20)
    have bw27 : ¬ (x2.toInt = 6) := (orm36 w20)
    exact ft_ret mi_k140 (by rfl) (hP ((a 117).getD (((8 * x2) - 8) + x1).toNatClampNeg 0) ⟨(orm32 w20), (show ((a 117).getD (((8 * x2) - 8) + x1).toNatClampNeg 0) = rGet x1 x2 (a 118, a 117, i 7426, i 7427) from (by unfold rGet; simp only [if_neg bw24, if_neg bw25, if_neg bw26, if_neg bw27]; first | done | rfl | (simp only [sMn, sMx]; done) | (simp only [sMn, sMx]; rfl)))⟩)
  by_cases w28 : x2.toInt = 4
  ·
    refine ko_eq (x1 := (1, [(0, .ref 116), (1, .int x1), (2, .int x2)], [.int 4], (0, 0), ks i a q r)) (by rw [(kj_eq w28 (by decide) : x2 = 4)]) ?_
    have fi_7426 : ((1 : Int) ≤ (i 7426).toInt) ∧ ((i 7426).toInt ≤ 5) := hG.I.1 7426
    refine ft_go mi_k140 3 55 [(0, .ref 116), (1, .int x1), (2, .int x2)] [.int (i 7426)] i a q r (by rfl) ?_
    have bw29 : ¬ (x2.toInt = 0) := (orm38 w28)
    have bw30 : x2.toInt = 4 := (orm39 w28)
    exact ft_ret mi_k140 (by rfl) (hP (i 7426) ⟨(orm37 fi_7426.1 fi_7426.2), (show (i 7426) = rGet x1 x2 (a 118, a 117, i 7426, i 7427) from (by unfold rGet; simp only [if_neg bw29, if_pos bw30]; first | done | rfl | (simp only [sMn, sMx]; done) | (simp only [sMn, sMx]; rfl)))⟩)
  by_cases w31 : x2.toInt = 5
  ·
    refine ko_eq (x1 := (1, [(0, .ref 116), (1, .int x1), (2, .int x2)], [.int 5], (0, 0), ks i a q r)) (by rw [(kj_eq w31 (by decide) : x2 = 5)]) ?_
    refine ft_go mi_k140 3 60 [(0, .ref 116), (1, .int x1), (2, .int x2)] [.int (i 7427)] i a q r (by rfl) ?_
    have bw32 : ¬ (x2.toInt = 0) := (orm41 w31)
    have bw33 : ¬ (x2.toInt = 4) := (orm42 w31)
    have bw34 : x2.toInt = 5 := (orm43 w31)
    exact ft_ret mi_k140 (by rfl) (hP (i 7427) ⟨(orm40 w31), (show (i 7427) = rGet x1 x2 (a 118, a 117, i 7426, i 7427) from (by unfold rGet; simp only [if_neg bw32, if_neg bw33, if_pos bw34]; first | done | rfl | (simp only [sMn, sMx]; done) | (simp only [sMn, sMx]; rfl)))⟩)
  by_cases w35 : x2.toInt = 6
  ·
    refine ko_eq (x1 := (1, [(0, .ref 116), (1, .int x1), (2, .int x2)], [.int 6], (0, 0), ks i a q r)) (by rw [(kj_eq w35 (by decide) : x2 = 6)]) ?_
    refine ft_go mi_k140 4 67 [(0, .ref 116), (1, .int x1), (2, .int x2)] [.int 8, .ref 118] i a q r (by rfl) ?_
    refine ko_iald3 mi_k140.1 (n := 31) (c := 31) (ax := (0, 0, 0, 0, 0)) (mi_k140.2 _ _ (by rfl)) (by rfl) (ksG118 _ _ _ _) (hG.I.2.1 118) rfl (orm44 korm8) (orm45 korm8) ?_
    have bw36 : ¬ (x2.toInt = 0) := (orm47 w35)
    have bw37 : ¬ (x2.toInt = 4) := (orm48 w35)
    have bw38 : ¬ (x2.toInt = 5) := (orm49 w35)
    have bw39 : x2.toInt = 6 := (orm50 hp1.2 w35)
    exact ft_ret mi_k140 (by rfl) (hP ((a 118).getD (8 : Int32).toNatClampNeg 0) ⟨(orm46 w35), (show ((a 118).getD (8 : Int32).toNatClampNeg 0) = rGet x1 x2 (a 118, a 117, i 7426, i 7427) from (by unfold rGet; simp only [if_neg bw36, if_neg bw37, if_neg bw38, if_pos bw39]; first | done | rfl | (simp only [sMn, sMx]; done) | (simp only [sMn, sMx]; rfl)))⟩)
  exact (orm51 hp1.1 hp1.2 w1 w12 w20 w28 w31 w35 w4).elim
def yw141_116 : kW := ([7426, 7427], [117, 118], [], [])
set_option maxRecDepth 100000 in
theorem ke141_116 {i : Nat → Int32} {a : Nat → List Int32} {q : Nat → List Int64} {r : Nat → Nat} (hI : kI i a q) (hr : kr r) (x1 : Int32) (x2 : Int32) (x3 : Int32) (hp0 : ((0 : Int) ≤ x1.toInt) ∧ (x1.toInt ≤ 7)) (hp1 : ((0 : Int) ≤ x2.toInt) ∧ (x2.toInt ≤ 6)) (hp2 : ((x2.toInt = 4) → (((1 : Int) ≤ x3.toInt) ∧ (x3.toInt ≤ 5)))) : km 1 141 [.ref 116, .int x1, .int x2, .int x3] (ks i a q r) (kVN yw141_116 i a q r (fun i1 a1 q1 r1 => (True) ∧ (a1 118 = (rSet x1 x2 x3 (a 118, a 117, i 7426, i 7427)).1 ∧ a1 117 = (rSet x1 x2 x3 (a 118, a 117, i 7426, i 7427)).2.1 ∧ i1 7426 = (rSet x1 x2 x3 (a 118, a 117, i 7426, i 7427)).2.2.1 ∧ i1 7427 = (rSet x1 x2 x3 (a 118, a 117, i 7426, i 7427)).2.2.2))) := by
  have hG := kG_self yw141_116 hI hr
  refine km_ofN (q := (mi_h141, mi_c141)) rfl (by decide) (Nat.le_of_ble_eq_true rfl) ?_
  intro P hP
  refine ft_go mi_k141 1 1 [(0, .ref 116), (1, .int x1), (2, .int x2), (3, .int x3)] [.int x2] i a q r (by rfl) ?_
  by_cases w1 : x2.toInt = 0
  ·
    refine ko_eq (x1 := (1, [(0, .ref 116), (1, .int x1), (2, .int x2), (3, .int x3)], [.int 0], (0, 0), ks i a q r)) (by rw [(kj_eq w1 (by decide) : x2 = 0)]) ?_
    refine ft_go mi_k141 5 50 [(0, .ref 116), (1, .int x1), (2, .int x2), (3, .int x3)] [.int x3, .int x1, .ref 118] i a q r (by rfl) ?_
    refine ko_iast3 mi_k141.1 (n := 31) (c := 31) (ax := (0, 0, 0, 0, 0)) (mi_k141.2 _ _ (by rfl)) (by rfl) (ksG118 _ _ _ _) (ksA118 _ _ _ _) (hG.I.2.1 118) rfl (orm0 hp0.1) (orm1 hp0.2) ?_
    intro a2 ea2 fa2
    have hJ2 := kG_a3 hG 118 rfl ea2 fa2 (kE_nset (p := 118) (by decide) (orm0 hp0.1) (orm52 hp0.2) (orm53 hp0.2))
    refine ft_go mi_k141 1 96 [(0, .ref 116), (1, .int x1), (2, .int x2), (3, .int x3)] [] i a2 q r (by rfl) ?_
    have bw3 : x2.toInt = 0 := (orm3 hp1.1 w1)
    exact ft_ret mi_k141 (by rfl) (hP  _ _ _ _ hJ2 ⟨trivial, ⟨(show a2 118 = (rSet x1 x2 x3 (a 118, a 117, i 7426, i 7427)).1 from (by unfold rSet; simp only [if_pos bw3]; first | done | rfl | (simp only [ea2, sMn, sMx]; done) | (simp only [ea2, sMn, sMx]; rfl))), (show a2 117 = (rSet x1 x2 x3 (a 118, a 117, i 7426, i 7427)).2.1 from (by unfold rSet; simp only [if_pos bw3]; first | done | rfl | (simp only [fa2 117 (by decide), sMn, sMx]; done) | (simp only [fa2 117 (by decide), sMn, sMx]; rfl))), (show i 7426 = (rSet x1 x2 x3 (a 118, a 117, i 7426, i 7427)).2.2.1 from (by unfold rSet; simp only [if_pos bw3]; first | done | rfl | (simp only [sMn, sMx]; done) | (simp only [sMn, sMx]; rfl))), (show i 7427 = (rSet x1 x2 x3 (a 118, a 117, i 7426, i 7427)).2.2.2 from (by unfold rSet; simp only [if_pos bw3]; first | done | rfl | (simp only [sMn, sMx]; done) | (simp only [sMn, sMx]; rfl)))⟩⟩)
  by_cases w4 : x2.toInt = 1
  ·
    refine ko_eq (x1 := (1, [(0, .ref 116), (1, .int x1), (2, .int x2), (3, .int x3)], [.int 1], (0, 0), ks i a q r)) (by rw [(kj_eq w4 (by decide) : x2 = 1)]) ?_
    have s5 : (8 * x2).toInt = 8 * x2.toInt := kd_cmul 8 korm8 (orm4 w4) (orm5 hp1.2)
    have s6 : ((8 * x2) - 8).toInt = (8 * x2).toInt - (8 : Int32).toInt := kd_sub (orm6 s5 w4 korm8) (orm7 hp1.2 s5 korm8)
    have s7 : (((8 * x2) - 8) + x1).toInt = ((8 * x2) - 8).toInt + x1.toInt := kd_add (orm8 hp0.1 hp1.1 s5 s6 korm8) (orm9 hp0.2 hp1.2 s5 s6 korm8)
    refine ft_go mi_k141 11 95 [(0, .ref 116), (1, .int x1), (2, .int x2), (3, .int x3)] [.int x3, .int (((8 * x2) - 8) + x1), .ref 117] i a q r (by rfl) ?_
    refine ko_iast3 mi_k141.1 (n := 24) (c := 24) (ax := (0, 0, 0, 0, 0)) (mi_k141.2 _ _ (by rfl)) (by rfl) (ksG117 _ _ _ _) (ksA117 _ _ _ _) (hG.I.2.1 117) rfl (orm10 hp0.1 s5 s6 s7 w4 korm8) (orm11 hp0.2 s5 s6 s7 w4 korm8) ?_
    intro a8 ea8 fa8
    have hJ8 := kG_a3 hG 117 rfl ea8 fa8 (kd_bd _)
    have bw9 : ¬ (x2.toInt = 0) := (orm13 w4)
    have bw10 : ¬ (x2.toInt = 4) := (orm14 w4)
    have bw11 : ¬ (x2.toInt = 5) := (orm15 w4)
    have bw12 : ¬ (x2.toInt = 6) := (orm16 w4)
    exact ft_ret mi_k141 (by rfl) (hP  _ _ _ _ hJ8 ⟨trivial, ⟨(show a8 118 = (rSet x1 x2 x3 (a 118, a 117, i 7426, i 7427)).1 from (by unfold rSet; simp only [if_neg bw9, if_neg bw10, if_neg bw11, if_neg bw12]; first | done | rfl | (simp only [fa8 118 (by decide), sMn, sMx]; done) | (simp only [fa8 118 (by decide), sMn, sMx]; rfl))), (show a8 117 = (rSet x1 x2 x3 (a 118, a 117, i 7426, i 7427)).2.1 from (by unfold rSet; simp only [if_neg bw9, if_neg bw10, if_neg bw11, if_neg bw12]; first | done | rfl | (simp only [ea8, sMn, sMx]; done) | (simp only [ea8, sMn, sMx]; rfl))), (show i 7426 = (rSet x1 x2 x3 (a 118, a 117, i 7426, i 7427)).2.2.1 from (by unfold rSet; simp only [if_neg bw9, if_neg bw10, if_neg bw11, if_neg bw12]; first | done | rfl | (simp only [sMn, sMx]; done) | (simp only [sMn, sMx]; rfl))), (show i 7427 = (rSet x1 x2 x3 (a 118, a 117, i 7426, i 7427)).2.2.2 from (by unfold rSet; simp only [if_neg bw9, if_neg bw10, if_neg bw11, if_neg bw12]; first | done | rfl | (simp only [sMn, sMx]; done) | (simp only [sMn, sMx]; rfl)))⟩⟩)
  by_cases w13 : x2.toInt = 2
  ·
    refine ko_eq (x1 := (1, [(0, .ref 116), (1, .int x1), (2, .int x2), (3, .int x3)], [.int 2], (0, 0), ks i a q r)) (by rw [(kj_eq w13 (by decide) : x2 = 2)]) ?_
    have s14 : (8 * x2).toInt = 8 * x2.toInt := kd_cmul 8 korm8 (orm17 w13) (orm5 hp1.2)
    have s15 : ((8 * x2) - 8).toInt = (8 * x2).toInt - (8 : Int32).toInt := kd_sub (orm18 s14 w13 korm8) (orm7 hp1.2 s14 korm8)
    have s16 : (((8 * x2) - 8) + x1).toInt = ((8 * x2) - 8).toInt + x1.toInt := kd_add (orm19 hp0.1 s14 s15 w13 korm8) (orm9 hp0.2 hp1.2 s14 s15 korm8)
    refine ft_go mi_k141 11 95 [(0, .ref 116), (1, .int x1), (2, .int x2), (3, .int x3)] [.int x3, .int (((8 * x2) - 8) + x1), .ref 117] i a q r (by rfl) ?_
    refine ko_iast3 mi_k141.1 (n := 24) (c := 24) (ax := (0, 0, 0, 0, 0)) (mi_k141.2 _ _ (by rfl)) (by rfl) (ksG117 _ _ _ _) (ksA117 _ _ _ _) (hG.I.2.1 117) rfl (orm20 hp0.1 s14 s15 s16 w13 korm8) (orm21 hp0.2 s14 s15 s16 w13 korm8) ?_
    intro a17 ea17 fa17
    have hJ17 := kG_a3 hG 117 rfl ea17 fa17 (kd_bd _)
    have bw18 : ¬ (x2.toInt = 0) := (orm23 w13)
    have bw19 : ¬ (x2.toInt = 4) := (orm24 w13)
    have bw20 : ¬ (x2.toInt = 5) := (orm25 w13)
    have bw21 : ¬ (x2.toInt = 6) := (orm26 w13)
    exact ft_ret mi_k141 (by rfl) (hP  _ _ _ _ hJ17 ⟨trivial, ⟨(show a17 118 = (rSet x1 x2 x3 (a 118, a 117, i 7426, i 7427)).1 from (by unfold rSet; simp only [if_neg bw18, if_neg bw19, if_neg bw20, if_neg bw21]; first | done | rfl | (simp only [fa17 118 (by decide), sMn, sMx]; done) | (simp only [fa17 118 (by decide), sMn, sMx]; rfl))), (show a17 117 = (rSet x1 x2 x3 (a 118, a 117, i 7426, i 7427)).2.1 from (by unfold rSet; simp only [if_neg bw18, if_neg bw19, if_neg bw20, if_neg bw21]; first | done | rfl | (simp only [ea17, sMn, sMx]; done) | (simp only [ea17, sMn, sMx]; rfl))), (show i 7426 = (rSet x1 x2 x3 (a 118, a 117, i 7426, i 7427)).2.2.1 from (by unfold rSet; simp only [if_neg bw18, if_neg bw19, if_neg bw20, if_neg bw21]; first | done | rfl | (simp only [sMn, sMx]; done) | (simp only [sMn, sMx]; rfl))), (show i 7427 = (rSet x1 x2 x3 (a 118, a 117, i 7426, i 7427)).2.2.2 from (by unfold rSet; simp only [if_neg bw18, if_neg bw19, if_neg bw20, if_neg bw21]; first | done | rfl | (simp only [sMn, sMx]; done) | (simp only [sMn, sMx]; rfl)))⟩⟩)
  by_cases w22 : x2.toInt = 3
  ·
    refine ko_eq (x1 := (1, [(0, .ref 116), (1, .int x1), (2, .int x2), (3, .int x3)], [.int 3], (0, 0), ks i a q r)) (by rw [(kj_eq w22 (by decide) : x2 = 3)]) ?_
    have s23 : (8 * x2).toInt = 8 * x2.toInt := kd_cmul 8 korm8 (orm27 w22) (orm5 hp1.2)
    have s24 : ((8 * x2) - 8).toInt = (8 * x2).toInt - (8 : Int32).toInt := kd_sub (orm28 s23 w22 korm8) (orm7 hp1.2 s23 korm8)
    have s25 : (((8 * x2) - 8) + x1).toInt = ((8 * x2) - 8).toInt + x1.toInt := kd_add (orm29 hp0.1 s23 s24 w22 korm8) (orm9 hp0.2 hp1.2 s23 s24 korm8)
    refine ft_go mi_k141 11 95 [(0, .ref 116), (1, .int x1), (2, .int x2), (3, .int x3)] [.int x3, .int (((8 * x2) - 8) + x1), .ref 117] i a q r (by rfl) ?_
    refine ko_iast3 mi_k141.1 (n := 24) (c := 24) (ax := (0, 0, 0, 0, 0)) (mi_k141.2 _ _ (by rfl)) (by rfl) (ksG117 _ _ _ _) (ksA117 _ _ _ _) (hG.I.2.1 117) rfl (orm30 hp0.1 s23 s24 s25 w22 korm8) (orm31 hp0.2 s23 s24 s25 w22 korm8) ?_
    intro a26 ea26 fa26
    have hJ26 := kG_a3 hG 117 rfl ea26 fa26 (kd_bd _)
    have bw27 : ¬ (x2.toInt = 0) := (orm33 w22)
    have bw28 : ¬ (x2.toInt = 4) := (orm34 w22)
    have bw29 : ¬ (x2.toInt = 5) := (orm35 w22)
    have bw30 : ¬ (x2.toInt = 6) := (orm36 w22)
    exact ft_ret mi_k141 (by rfl) (hP  _ _ _ _ hJ26 ⟨trivial, ⟨(show a26 118 = (rSet x1 x2 x3 (a 118, a 117, i 7426, i 7427)).1 from (by unfold rSet; simp only [if_neg bw27, if_neg bw28, if_neg bw29, if_neg bw30]; first | done | rfl | (simp only [fa26 118 (by decide), sMn, sMx]; done) | (simp only [fa26 118 (by decide), sMn, sMx]; rfl))), (show a26 117 = (rSet x1 x2 x3 (a 118, a 117, i 7426, i 7427)).2.1 from (by unfold rSet; simp only [if_neg bw27, if_neg bw28, if_neg bw29, if_neg bw30]; first | done | rfl | (simp only [ea26, sMn, sMx]; done) | (simp only [ea26, sMn, sMx]; rfl))), (show i 7426 = (rSet x1 x2 x3 (a 118, a 117, i 7426, i 7427)).2.2.1 from (by unfold rSet; simp only [if_neg bw27, if_neg bw28, if_neg bw29, if_neg bw30]; first | done | rfl | (simp only [sMn, sMx]; done) | (simp only [sMn, sMx]; rfl))), (show i 7427 = (rSet x1 x2 x3 (a 118, a 117, i 7426, i 7427)).2.2.2 from (by unfold rSet; simp only [if_neg bw27, if_neg bw28, if_neg bw29, if_neg bw30]; first | done | rfl | (simp only [sMn, sMx]; done) | (simp only [sMn, sMx]; rfl)))⟩⟩)
  by_cases w31 : x2.toInt = 4
  ·
    refine ko_eq (x1 := (1, [(0, .ref 116), (1, .int x1), (2, .int x2), (3, .int x3)], [.int 4], (0, 0), ks i a q r)) (by rw [(kj_eq w31 (by decide) : x2 = 4)]) ?_
    have hJ32 := kG_i hG 7426 rfl (v := x3) ⟨(orm54 hp2 w31), (orm55 hp2 w31)⟩
    refine ft_go mi_k141 5 96 [(0, .ref 116), (1, .int x1), (2, .int x2), (3, .int x3)] [] (ku i 7426 x3) a q r (by rfl) ?_
    have bw33 : ¬ (x2.toInt = 0) := (orm38 w31)
    have bw34 : x2.toInt = 4 := (orm39 w31)
    exact ft_ret mi_k141 (by rfl) (hP  _ _ _ _ hJ32 ⟨trivial, ⟨(show a 118 = (rSet x1 x2 x3 (a 118, a 117, i 7426, i 7427)).1 from (by unfold rSet; simp only [if_neg bw33, if_pos bw34]; first | done | rfl | (simp only [sMn, sMx]; done) | (simp only [sMn, sMx]; rfl))), (show a 117 = (rSet x1 x2 x3 (a 118, a 117, i 7426, i 7427)).2.1 from (by unfold rSet; simp only [if_neg bw33, if_pos bw34]; first | done | rfl | (simp only [sMn, sMx]; done) | (simp only [sMn, sMx]; rfl))), (show x3 = (rSet x1 x2 x3 (a 118, a 117, i 7426, i 7427)).2.2.1 from (by unfold rSet; simp only [if_neg bw33, if_pos bw34]; first | done | rfl | (simp only [sMn, sMx]; done) | (simp only [sMn, sMx]; rfl))), (show i 7427 = (rSet x1 x2 x3 (a 118, a 117, i 7426, i 7427)).2.2.2 from (by unfold rSet; simp only [if_neg bw33, if_pos bw34]; first | done | rfl | (simp only [sMn, sMx]; done) | (simp only [sMn, sMx]; rfl)))⟩⟩)
  by_cases w35 : x2.toInt = 5
  ·
    refine ko_eq (x1 := (1, [(0, .ref 116), (1, .int x1), (2, .int x2), (3, .int x3)], [.int 5], (0, 0), ks i a q r)) (by rw [(kj_eq w35 (by decide) : x2 = 5)]) ?_
    have hJ36 := kG_i hG 7427 rfl (v := x3) (kd_bd _)
    refine ft_go mi_k141 5 96 [(0, .ref 116), (1, .int x1), (2, .int x2), (3, .int x3)] [] (ku i 7427 x3) a q r (by rfl) ?_
    have bw37 : ¬ (x2.toInt = 0) := (orm41 w35)
    have bw38 : ¬ (x2.toInt = 4) := (orm42 w35)
    have bw39 : x2.toInt = 5 := (orm43 w35)
    exact ft_ret mi_k141 (by rfl) (hP  _ _ _ _ hJ36 ⟨trivial, ⟨(show a 118 = (rSet x1 x2 x3 (a 118, a 117, i 7426, i 7427)).1 from (by unfold rSet; simp only [if_neg bw37, if_neg bw38, if_pos bw39]; first | done | rfl | (simp only [sMn, sMx]; done) | (simp only [sMn, sMx]; rfl))), (show a 117 = (rSet x1 x2 x3 (a 118, a 117, i 7426, i 7427)).2.1 from (by unfold rSet; simp only [if_neg bw37, if_neg bw38, if_pos bw39]; first | done | rfl | (simp only [sMn, sMx]; done) | (simp only [sMn, sMx]; rfl))), (show i 7426 = (rSet x1 x2 x3 (a 118, a 117, i 7426, i 7427)).2.2.1 from (by unfold rSet; simp only [if_neg bw37, if_neg bw38, if_pos bw39]; first | done | rfl | (simp only [sMn, sMx]; done) | (simp only [sMn, sMx]; rfl))), (show x3 = (rSet x1 x2 x3 (a 118, a 117, i 7426, i 7427)).2.2.2 from (by unfold rSet; simp only [if_neg bw37, if_neg bw38, if_pos bw39]; first | done | rfl | (simp only [sMn, sMx]; done) | (simp only [sMn, sMx]; rfl)))⟩⟩)
  by_cases w40 : x2.toInt = 6
  ·
    refine ko_eq (x1 := (1, [(0, .ref 116), (1, .int x1), (2, .int x2), (3, .int x3)], [.int 6], (0, 0), ks i a q r)) (by rw [(kj_eq w40 (by decide) : x2 = 6)]) ?_
    refine ft_go mi_k141 5 77 [(0, .ref 116), (1, .int x1), (2, .int x2), (3, .int x3)] [.int x3, .int 8, .ref 118] i a q r (by rfl) ?_
    refine ko_iast3 mi_k141.1 (n := 31) (c := 31) (ax := (0, 0, 0, 0, 0)) (mi_k141.2 _ _ (by rfl)) (by rfl) (ksG118 _ _ _ _) (ksA118 _ _ _ _) (hG.I.2.1 118) rfl (orm44 korm8) (orm45 korm8) ?_
    intro a41 ea41 fa41
    have hJ41 := kG_a3 hG 118 rfl ea41 fa41 (kE_nset (p := 118) (by decide) (orm44 korm8) (orm56 korm8) (orm57 korm8))
    refine ft_go mi_k141 1 96 [(0, .ref 116), (1, .int x1), (2, .int x2), (3, .int x3)] [] i a41 q r (by rfl) ?_
    have bw42 : ¬ (x2.toInt = 0) := (orm47 w40)
    have bw43 : ¬ (x2.toInt = 4) := (orm48 w40)
    have bw44 : ¬ (x2.toInt = 5) := (orm49 w40)
    have bw45 : x2.toInt = 6 := (orm50 hp1.2 w40)
    exact ft_ret mi_k141 (by rfl) (hP  _ _ _ _ hJ41 ⟨trivial, ⟨(show a41 118 = (rSet x1 x2 x3 (a 118, a 117, i 7426, i 7427)).1 from (by unfold rSet; simp only [if_neg bw42, if_neg bw43, if_neg bw44, if_pos bw45]; first | done | rfl | (simp only [ea41, sMn, sMx]; done) | (simp only [ea41, sMn, sMx]; rfl))), (show a41 117 = (rSet x1 x2 x3 (a 118, a 117, i 7426, i 7427)).2.1 from (by unfold rSet; simp only [if_neg bw42, if_neg bw43, if_neg bw44, if_pos bw45]; first | done | rfl | (simp only [fa41 117 (by decide), sMn, sMx]; done) | (simp only [fa41 117 (by decide), sMn, sMx]; rfl))), (show i 7426 = (rSet x1 x2 x3 (a 118, a 117, i 7426, i 7427)).2.2.1 from (by unfold rSet; simp only [if_neg bw42, if_neg bw43, if_neg bw44, if_pos bw45]; first | done | rfl | (simp only [sMn, sMx]; done) | (simp only [sMn, sMx]; rfl))), (show i 7427 = (rSet x1 x2 x3 (a 118, a 117, i 7426, i 7427)).2.2.2 from (by unfold rSet; simp only [if_neg bw42, if_neg bw43, if_neg bw44, if_pos bw45]; first | done | rfl | (simp only [sMn, sMx]; done) | (simp only [sMn, sMx]; rfl)))⟩⟩)
  exact (orm58 hp1.1 hp1.2 w1 w13 w22 w31 w35 w4 w40).elim
set_option maxRecDepth 100000 in
theorem ke143_116 {i : Nat → Int32} {a : Nat → List Int32} {q : Nat → List Int64} {r : Nat → Nat} (hI : kI i a q) (hr : kr r) (x1 : Int32) (x2 : Int32) : km 7 143 [.ref 116, .int x1, .int x2] (ks i a q r) (kPI (ks i a q r) (fun v => (True) ∧ v = rOf (i 7424) x1 x2 (a 118, a 117, i 7426, i 7427))) := by
  have hG := kG_self kW0 hI hr
  refine km_ofPI (q := (mi_h143, mi_c143)) rfl (by decide) (Nat.le_of_ble_eq_true rfl) ?_
  intro P hP
  refine ft_go mi_k143 3 3 [(0, .ref 116), (1, .int x1), (2, .int x2)] [.int x2, .int x1, .ref 116] i a q r (by rfl) ?_
  refine ko_callPI mi_k143.1 (pc := 3) (ls := [(0, .ref 116), (1, .int x1), (2, .int x2)]) (st := [.int x2, .int x1, .ref 116]) (h := ks i a q r) (i := (.invokevirtual 140, 3, 138, 0, 9, 0, 386)) (mi_k143.2 _ _ (by rfl)) (ft_invS mi_pq138 (by rfl)) (cy := mi_c138) mi_pq138 rfl (kc138_116 hG.I hG.R x1 x2) (by decide) ?_
  intro vg1 hg1
  rcases hg1 with ⟨eg1, hg1⟩ | ⟨eg1, hg1⟩
  ·
    subst eg1
    have fi_7424 : ((0 : Int) ≤ (i 7424).toInt) ∧ ((i 7424).toInt ≤ 8) := hG.I.1 7424
    have z2 : (((0 : Int) ≤ x2.toInt) ∧ (x2.toInt ≤ 3) ∧ ((0 : Int) ≤ x1.toInt) ∧ (x1.toInt < (i 7424).toInt)) ∨ (((4 : Int) ≤ x2.toInt) ∧ (x2.toInt ≤ 6) ∧ (x1.toInt = 0)) := hg1
    refine ft_go mi_k143 4 12 [(0, .ref 116), (1, .int x1), (2, .int x2)] [.int x2, .int x1, .ref 116] i a q r (by rfl) ?_
    refine ko_callPI mi_k143.1 (pc := 12) (ls := [(0, .ref 116), (1, .int x1), (2, .int x2)]) (st := [.int x2, .int x1, .ref 116]) (h := ks i a q r) (i := (.invokevirtual 147, 3, 140, 0, 9, 0, 389)) (mi_k143.2 _ _ (by rfl)) (ft_invS mi_pq140 (by rfl)) (cy := mi_c140) mi_pq140 rfl (ke140_116 hG.I hG.R x1 x2 (orm71 fi_7424.2 z2) (orm72 z2)) (by decide) ?_
    intro vg3 hg3
    obtain ⟨hg3, og3⟩ := hg3
    have z4 : ((x2.toInt = 4) → (((1 : Int) ≤ vg3.toInt) ∧ (vg3.toInt ≤ 5))) := hg3
    have q5 : vg3 = rGet x1 x2 (a 118, a 117, i 7426, i 7427) := og3
    refine ft_go mi_k143 1 19 [(0, .ref 116), (1, .int x1), (2, .int x2)] [.int vg3] i a q r (by rfl) ?_
    have bw6 : (((0 : Int) ≤ x2.toInt) ∧ (x2.toInt ≤ 3) ∧ ((0 : Int) ≤ x1.toInt) ∧ (x1.toInt < (i 7424).toInt)) ∨ (((4 : Int) ≤ x2.toInt) ∧ (x2.toInt ≤ 6) ∧ (x1.toInt = 0)) := (orm73 z2)
    exact ft_ret mi_k143 (by rfl) (hP vg3 ⟨trivial, (show vg3 = rOf (i 7424) x1 x2 (a 118, a 117, i 7426, i 7427) from (by unfold rOf; simp only [if_pos bw6]; first | done | rfl | (simp only [q5, sMn, sMx]; done) | (simp only [q5, sMn, sMx]; rfl)))⟩)
  ·
    subst eg1
    have fi_7424 : ((0 : Int) ≤ (i 7424).toInt) ∧ ((i 7424).toInt ≤ 8) := hG.I.1 7424
    have z7 : ¬ ((((0 : Int) ≤ x2.toInt) ∧ (x2.toInt ≤ 3) ∧ ((0 : Int) ≤ x1.toInt) ∧ (x1.toInt < (i 7424).toInt)) ∨ (((4 : Int) ≤ x2.toInt) ∧ (x2.toInt ≤ 6) ∧ (x1.toInt = 0))) := hg1
    refine ft_go mi_k143 2 19 [(0, .ref 116), (1, .int x1), (2, .int x2)] [.int (-1)] i a q r (by rfl) ?_
    have bw8 : ¬ ((((0 : Int) ≤ x2.toInt) ∧ (x2.toInt ≤ 3) ∧ ((0 : Int) ≤ x1.toInt) ∧ (x1.toInt < (i 7424).toInt)) ∨ (((4 : Int) ≤ x2.toInt) ∧ (x2.toInt ≤ 6) ∧ (x1.toInt = 0))) := (orm74 fi_7424.1 z7)
    exact ft_ret mi_k143 (by rfl) (hP (-1) ⟨trivial, (show ((-1) : Int32) = rOf (i 7424) x1 x2 (a 118, a 117, i 7426, i 7427) from (by unfold rOf; simp only [if_neg bw8]; first | done | rfl | (simp only [sMn, sMx]; done) | (simp only [sMn, sMx]; rfl)))⟩)
set_option maxRecDepth 100000 in
theorem ke139_l00 {i : Nat → Int32} {a : Nat → List Int32} {q : Nat → List Int64} {r : Nat → Nat} (hI : kI i a q) (hr : kr r) (x2 : Int32) : km 3 139 [.int 0, .int x2] (ks i a q r) (kPI (ks i a q r) (fun v => (v = 1 ∧ (((0 : Int) ≤ x2.toInt) ∧ (x2.toInt ≤ 999))) ∨ (v = 0 ∧ (¬ (((0 : Int) ≤ x2.toInt) ∧ (x2.toInt ≤ 999)))))) := by
  have hG := kG_self kW0 hI hr
  refine km_ofPI (q := (mi_h139, mi_c139)) rfl (by decide) (Nat.le_of_ble_eq_true rfl) ?_
  intro P hP
  refine ft_go mi_k139 5 49 [(0, .int 0), (1, .int x2)] [.int 999, .int 0, .int x2] i a q r (by rfl) ?_
  refine ko_callPI mi_k139.1 (pc := 49) (ls := [(0, .int 0), (1, .int x2)]) (st := [.int 999, .int 0, .int x2]) (h := ks i a q r) (i := (.invokestatic 119, 3, 131, 0, 9, 0, 379)) (mi_k139.2 _ _ (by rfl)) (ft_invS mi_pq131 (by rfl)) (cy := mi_c131) mi_pq131 rfl (kc131 hG.I hG.R x2 0 999) (by decide) ?_
  intro vg1 hg1
  rcases hg1 with ⟨eg1, hg1⟩ | ⟨eg1, hg1⟩
  ·
    subst eg1
    have z2 : ((0 : Int32).toInt ≤ x2.toInt) ∧ (x2.toInt ≤ (999 : Int32).toInt) := hg1
    exact ft_ret mi_k139 (by rfl) (hP 1 (Or.inl ⟨rfl, (orm75 z2.1 z2.2 korm0 korm999)⟩))
  ·
    subst eg1
    have z3 : ¬ (((0 : Int32).toInt ≤ x2.toInt) ∧ (x2.toInt ≤ (999 : Int32).toInt)) := hg1
    exact ft_ret mi_k139 (by rfl) (hP 0 (Or.inr ⟨rfl, (orm76 z3 korm0 korm999)⟩))
set_option maxRecDepth 100000 in
theorem ke139_l01 {i : Nat → Int32} {a : Nat → List Int32} {q : Nat → List Int64} {r : Nat → Nat} (hI : kI i a q) (hr : kr r) (x2 : Int32) : km 3 139 [.int 1, .int x2] (ks i a q r) (kPI (ks i a q r) (fun v => (v = 1 ∧ (((0 : Int) ≤ x2.toInt) ∧ (x2.toInt ≤ 9))) ∨ (v = 0 ∧ (¬ (((0 : Int) ≤ x2.toInt) ∧ (x2.toInt ≤ 9)))))) := by
  have hG := kG_self kW0 hI hr
  refine km_ofPI (q := (mi_h139, mi_c139)) rfl (by decide) (Nat.le_of_ble_eq_true rfl) ?_
  intro P hP
  refine ft_go mi_k139 5 57 [(0, .int 1), (1, .int x2)] [.int 9, .int 0, .int x2] i a q r (by rfl) ?_
  refine ko_callPI mi_k139.1 (pc := 57) (ls := [(0, .int 1), (1, .int x2)]) (st := [.int 9, .int 0, .int x2]) (h := ks i a q r) (i := (.invokestatic 119, 3, 131, 0, 9, 0, 379)) (mi_k139.2 _ _ (by rfl)) (ft_invS mi_pq131 (by rfl)) (cy := mi_c131) mi_pq131 rfl (kc131 hG.I hG.R x2 0 9) (by decide) ?_
  intro vg1 hg1
  rcases hg1 with ⟨eg1, hg1⟩ | ⟨eg1, hg1⟩
  ·
    subst eg1
    have z2 : ((0 : Int32).toInt ≤ x2.toInt) ∧ (x2.toInt ≤ (9 : Int32).toInt) := hg1
    exact ft_ret mi_k139 (by rfl) (hP 1 (Or.inl ⟨rfl, (orm162 z2.1 z2.2 korm0 korm9)⟩))
  ·
    subst eg1
    have z3 : ¬ (((0 : Int32).toInt ≤ x2.toInt) ∧ (x2.toInt ≤ (9 : Int32).toInt)) := hg1
    exact ft_ret mi_k139 (by rfl) (hP 0 (Or.inr ⟨rfl, (orm163 z3 korm0 korm9)⟩))
set_option maxRecDepth 100000 in
theorem ke139_l02 {i : Nat → Int32} {a : Nat → List Int32} {q : Nat → List Int64} {r : Nat → Nat} (hI : kI i a q) (hr : kr r) (x2 : Int32) : km 3 139 [.int 2, .int x2] (ks i a q r) (kPI (ks i a q r) (fun v => (v = 1 ∧ (((0 : Int) ≤ x2.toInt) ∧ (x2.toInt ≤ 9))) ∨ (v = 0 ∧ (¬ (((0 : Int) ≤ x2.toInt) ∧ (x2.toInt ≤ 9)))))) := by
  have hG := kG_self kW0 hI hr
  refine km_ofPI (q := (mi_h139, mi_c139)) rfl (by decide) (Nat.le_of_ble_eq_true rfl) ?_
  intro P hP
  refine ft_go mi_k139 5 57 [(0, .int 2), (1, .int x2)] [.int 9, .int 0, .int x2] i a q r (by rfl) ?_
  refine ko_callPI mi_k139.1 (pc := 57) (ls := [(0, .int 2), (1, .int x2)]) (st := [.int 9, .int 0, .int x2]) (h := ks i a q r) (i := (.invokestatic 119, 3, 131, 0, 9, 0, 379)) (mi_k139.2 _ _ (by rfl)) (ft_invS mi_pq131 (by rfl)) (cy := mi_c131) mi_pq131 rfl (kc131 hG.I hG.R x2 0 9) (by decide) ?_
  intro vg1 hg1
  rcases hg1 with ⟨eg1, hg1⟩ | ⟨eg1, hg1⟩
  ·
    subst eg1
    have z2 : ((0 : Int32).toInt ≤ x2.toInt) ∧ (x2.toInt ≤ (9 : Int32).toInt) := hg1
    exact ft_ret mi_k139 (by rfl) (hP 1 (Or.inl ⟨rfl, (orm162 z2.1 z2.2 korm0 korm9)⟩))
  ·
    subst eg1
    have z3 : ¬ (((0 : Int32).toInt ≤ x2.toInt) ∧ (x2.toInt ≤ (9 : Int32).toInt)) := hg1
    exact ft_ret mi_k139 (by rfl) (hP 0 (Or.inr ⟨rfl, (orm163 z3 korm0 korm9)⟩))
set_option maxRecDepth 100000 in
theorem ke139_l03 {i : Nat → Int32} {a : Nat → List Int32} {q : Nat → List Int64} {r : Nat → Nat} (hI : kI i a q) (hr : kr r) (x2 : Int32) : km 3 139 [.int 3, .int x2] (ks i a q r) (kPI (ks i a q r) (fun v => (v = 1 ∧ (((0 : Int) ≤ x2.toInt) ∧ (x2.toInt ≤ 1))) ∨ (v = 0 ∧ (¬ (((0 : Int) ≤ x2.toInt) ∧ (x2.toInt ≤ 1)))))) := by
  have hG := kG_self kW0 hI hr
  refine km_ofPI (q := (mi_h139, mi_c139)) rfl (by decide) (Nat.le_of_ble_eq_true rfl) ?_
  intro P hP
  refine ft_go mi_k139 5 79 [(0, .int 3), (1, .int x2)] [.int 1, .int 0, .int x2] i a q r (by rfl) ?_
  refine ko_callPI mi_k139.1 (pc := 79) (ls := [(0, .int 3), (1, .int x2)]) (st := [.int 1, .int 0, .int x2]) (h := ks i a q r) (i := (.invokestatic 119, 3, 131, 0, 9, 0, 379)) (mi_k139.2 _ _ (by rfl)) (ft_invS mi_pq131 (by rfl)) (cy := mi_c131) mi_pq131 rfl (kc131 hG.I hG.R x2 0 1) (by decide) ?_
  intro vg1 hg1
  rcases hg1 with ⟨eg1, hg1⟩ | ⟨eg1, hg1⟩
  ·
    subst eg1
    have z2 : ((0 : Int32).toInt ≤ x2.toInt) ∧ (x2.toInt ≤ (1 : Int32).toInt) := hg1
    exact ft_ret mi_k139 (by rfl) (hP 1 (Or.inl ⟨rfl, (orm194 z2.1 z2.2 korm0 korm1)⟩))
  ·
    subst eg1
    have z3 : ¬ (((0 : Int32).toInt ≤ x2.toInt) ∧ (x2.toInt ≤ (1 : Int32).toInt)) := hg1
    exact ft_ret mi_k139 (by rfl) (hP 0 (Or.inr ⟨rfl, (orm195 z3 korm0 korm1)⟩))
set_option maxRecDepth 100000 in
theorem ke139_l04 {i : Nat → Int32} {a : Nat → List Int32} {q : Nat → List Int64} {r : Nat → Nat} (hI : kI i a q) (hr : kr r) (x2 : Int32) : km 3 139 [.int 4, .int x2] (ks i a q r) (kPI (ks i a q r) (fun v => (v = 1 ∧ (((1 : Int) ≤ x2.toInt) ∧ (x2.toInt ≤ 5))) ∨ (v = 0 ∧ (¬ (((1 : Int) ≤ x2.toInt) ∧ (x2.toInt ≤ 5)))))) := by
  have hG := kG_self kW0 hI hr
  refine km_ofPI (q := (mi_h139, mi_c139)) rfl (by decide) (Nat.le_of_ble_eq_true rfl) ?_
  intro P hP
  refine ft_go mi_k139 5 64 [(0, .int 4), (1, .int x2)] [.int 5, .int 1, .int x2] i a q r (by rfl) ?_
  refine ko_callPI mi_k139.1 (pc := 64) (ls := [(0, .int 4), (1, .int x2)]) (st := [.int 5, .int 1, .int x2]) (h := ks i a q r) (i := (.invokestatic 119, 3, 131, 0, 9, 0, 379)) (mi_k139.2 _ _ (by rfl)) (ft_invS mi_pq131 (by rfl)) (cy := mi_c131) mi_pq131 rfl (kc131 hG.I hG.R x2 1 5) (by decide) ?_
  intro vg1 hg1
  rcases hg1 with ⟨eg1, hg1⟩ | ⟨eg1, hg1⟩
  ·
    subst eg1
    have z2 : ((1 : Int32).toInt ≤ x2.toInt) ∧ (x2.toInt ≤ (5 : Int32).toInt) := hg1
    exact ft_ret mi_k139 (by rfl) (hP 1 (Or.inl ⟨rfl, (orm208 z2.1 z2.2 korm1 korm5)⟩))
  ·
    subst eg1
    have z3 : ¬ (((1 : Int32).toInt ≤ x2.toInt) ∧ (x2.toInt ≤ (5 : Int32).toInt)) := hg1
    exact ft_ret mi_k139 (by rfl) (hP 0 (Or.inr ⟨rfl, (orm209 z3 korm1 korm5)⟩))
set_option maxRecDepth 100000 in
theorem ke139_l05 {i : Nat → Int32} {a : Nat → List Int32} {q : Nat → List Int64} {r : Nat → Nat} (hI : kI i a q) (hr : kr r) (x2 : Int32) : km 3 139 [.int 5, .int x2] (ks i a q r) (kPI (ks i a q r) (fun v => (v = 1 ∧ (((0 : Int) ≤ x2.toInt) ∧ (x2.toInt ≤ 1))) ∨ (v = 0 ∧ (¬ (((0 : Int) ≤ x2.toInt) ∧ (x2.toInt ≤ 1)))))) := by
  have hG := kG_self kW0 hI hr
  refine km_ofPI (q := (mi_h139, mi_c139)) rfl (by decide) (Nat.le_of_ble_eq_true rfl) ?_
  intro P hP
  refine ft_go mi_k139 5 79 [(0, .int 5), (1, .int x2)] [.int 1, .int 0, .int x2] i a q r (by rfl) ?_
  refine ko_callPI mi_k139.1 (pc := 79) (ls := [(0, .int 5), (1, .int x2)]) (st := [.int 1, .int 0, .int x2]) (h := ks i a q r) (i := (.invokestatic 119, 3, 131, 0, 9, 0, 379)) (mi_k139.2 _ _ (by rfl)) (ft_invS mi_pq131 (by rfl)) (cy := mi_c131) mi_pq131 rfl (kc131 hG.I hG.R x2 0 1) (by decide) ?_
  intro vg1 hg1
  rcases hg1 with ⟨eg1, hg1⟩ | ⟨eg1, hg1⟩
  ·
    subst eg1
    have z2 : ((0 : Int32).toInt ≤ x2.toInt) ∧ (x2.toInt ≤ (1 : Int32).toInt) := hg1
    exact ft_ret mi_k139 (by rfl) (hP 1 (Or.inl ⟨rfl, (orm194 z2.1 z2.2 korm0 korm1)⟩))
  ·
    subst eg1
    have z3 : ¬ (((0 : Int32).toInt ≤ x2.toInt) ∧ (x2.toInt ≤ (1 : Int32).toInt)) := hg1
    exact ft_ret mi_k139 (by rfl) (hP 0 (Or.inr ⟨rfl, (orm195 z3 korm0 korm1)⟩))
set_option maxRecDepth 100000 in
theorem ke139_l06 {i : Nat → Int32} {a : Nat → List Int32} {q : Nat → List Int64} {r : Nat → Nat} (hI : kI i a q) (hr : kr r) (x2 : Int32) : km 3 139 [.int 6, .int x2] (ks i a q r) (kPI (ks i a q r) (fun v => (v = 1 ∧ (((0 : Int) ≤ x2.toInt) ∧ (x2.toInt ≤ 99))) ∨ (v = 0 ∧ (¬ (((0 : Int) ≤ x2.toInt) ∧ (x2.toInt ≤ 99)))))) := by
  have hG := kG_self kW0 hI hr
  refine km_ofPI (q := (mi_h139, mi_c139)) rfl (by decide) (Nat.le_of_ble_eq_true rfl) ?_
  intro P hP
  refine ft_go mi_k139 5 72 [(0, .int 6), (1, .int x2)] [.int 99, .int 0, .int x2] i a q r (by rfl) ?_
  refine ko_callPI mi_k139.1 (pc := 72) (ls := [(0, .int 6), (1, .int x2)]) (st := [.int 99, .int 0, .int x2]) (h := ks i a q r) (i := (.invokestatic 119, 3, 131, 0, 9, 0, 379)) (mi_k139.2 _ _ (by rfl)) (ft_invS mi_pq131 (by rfl)) (cy := mi_c131) mi_pq131 rfl (kc131 hG.I hG.R x2 0 99) (by decide) ?_
  intro vg1 hg1
  rcases hg1 with ⟨eg1, hg1⟩ | ⟨eg1, hg1⟩
  ·
    subst eg1
    have z2 : ((0 : Int32).toInt ≤ x2.toInt) ∧ (x2.toInt ≤ (99 : Int32).toInt) := hg1
    exact ft_ret mi_k139 (by rfl) (hP 1 (Or.inl ⟨rfl, (orm232 z2.1 z2.2 korm0 korm99)⟩))
  ·
    subst eg1
    have z3 : ¬ (((0 : Int32).toInt ≤ x2.toInt) ∧ (x2.toInt ≤ (99 : Int32).toInt)) := hg1
    exact ft_ret mi_k139 (by rfl) (hP 0 (Or.inr ⟨rfl, (orm233 z3 korm0 korm99)⟩))
def yw142_116 : kW := ([7426, 7427, 7452, 7453], [117, 118, 133], [], [])
def yw142_116_L55 : kW := ([], [133], [], [])
set_option maxRecDepth 100000 in
theorem ke142_116 {i : Nat → Int32} {a : Nat → List Int32} {q : Nat → List Int64} {r : Nat → Nat} (hI : kI i a q) (hr : kr r) (x1 : Int32) (x2 : Int32) (x3 : Int32) (hp0 : (i 7453).toInt ≤ (i 7452).toInt) (hE_chg : kChg i a) : km 7 142 [.ref 116, .int x1, .int x2, .int x3] (ks i a q r) (kVI yw142_116 i a q r (fun v i1 a1 q1 r1 => ((i1 7453).toInt ≤ (i1 7452).toInt) ∧ ((v = (rMend (i 7424) x1 x2 x3 (a 118, a 117, i 7426, i 7427) (a 133, i 7452, i 7453)).1 ∧ a1 118 = ((rMend (i 7424) x1 x2 x3 (a 118, a 117, i 7426, i 7427) (a 133, i 7452, i 7453)).2.1).1 ∧ a1 117 = ((rMend (i 7424) x1 x2 x3 (a 118, a 117, i 7426, i 7427) (a 133, i 7452, i 7453)).2.1).2.1 ∧ i1 7426 = ((rMend (i 7424) x1 x2 x3 (a 118, a 117, i 7426, i 7427) (a 133, i 7452, i 7453)).2.1).2.2.1 ∧ i1 7427 = ((rMend (i 7424) x1 x2 x3 (a 118, a 117, i 7426, i 7427) (a 133, i 7452, i 7453)).2.1).2.2.2 ∧ a1 133 = ((rMend (i 7424) x1 x2 x3 (a 118, a 117, i 7426, i 7427) (a 133, i 7452, i 7453)).2.2).1 ∧ i1 7452 = ((rMend (i 7424) x1 x2 x3 (a 118, a 117, i 7426, i 7427) (a 133, i 7452, i 7453)).2.2).2.1 ∧ i1 7453 = ((rMend (i 7424) x1 x2 x3 (a 118, a 117, i 7426, i 7427) (a 133, i 7452, i 7453)).2.2).2.2) ∧ kChL (a1 133)))) := by
  have hG := kG_self yw142_116 hI hr
  refine km_ofI (q := (mi_h142, mi_c142)) rfl (by decide) (Nat.le_of_ble_eq_true rfl) ?_
  intro P hP
  have fi_7453 : ((0 : Int) ≤ (i 7453).toInt) ∧ ((i 7453).toInt ≤ 40) := hG.I.1 7453
  have fi_7452 : ((0 : Int) ≤ (i 7452).toInt) ∧ ((i 7452).toInt ≤ 40) := hG.I.1 7452
  refine ft_go mi_k142 3 3 [(0, .ref 116), (1, .int x1), (2, .int x2), (3, .int x3)] [.int x2, .int x1, .ref 116] i a q r (by rfl) ?_
  refine ko_callPI mi_k142.1 (pc := 3) (ls := [(0, .ref 116), (1, .int x1), (2, .int x2), (3, .int x3)]) (st := [.int x2, .int x1, .ref 116]) (h := ks i a q r) (i := (.invokevirtual 140, 3, 138, 0, 9, 0, 386)) (mi_k142.2 _ _ (by rfl)) (ft_invS mi_pq138 (by rfl)) (cy := mi_c138) mi_pq138 rfl (kc138_116 hG.I hG.R x1 x2) (by decide) ?_
  intro vg1 hg1
  rcases hg1 with ⟨eg1, hg1⟩ | ⟨eg1, hg1⟩
  ·
    subst eg1
    have fi_7424 : ((0 : Int) ≤ (i 7424).toInt) ∧ ((i 7424).toInt ≤ 8) := hG.I.1 7424
    have z2 : (((0 : Int) ≤ x2.toInt) ∧ (x2.toInt ≤ 3) ∧ ((0 : Int) ≤ x1.toInt) ∧ (x1.toInt < (i 7424).toInt)) ∨ (((4 : Int) ≤ x2.toInt) ∧ (x2.toInt ≤ 6) ∧ (x1.toInt = 0)) := hg1
    refine ft_go mi_k142 3 11 [(0, .ref 116), (1, .int x1), (2, .int x2), (3, .int x3)] [.int x3, .int x2] i a q r (by rfl) ?_
    by_cases w3 : x2.toInt = 0
    ·
      refine ko_eq (x1 := (11, [(0, .ref 116), (1, .int x1), (2, .int x2), (3, .int x3)], [.int x3, .int 0], (0, 0), ks i a q r)) (by rw [(kj_eq w3 (by decide) : x2 = 0)]) ?_
      refine ko_callPI mi_k142.1 (pc := 11) (ls := [(0, .ref 116), (1, .int x1), (2, .int x2), (3, .int x3)]) (st := [.int x3, .int 0]) (h := ks i a q r) (i := (.invokestatic 144, 3, 139, 0, 9, 0, 388)) (mi_k142.2 _ _ (by rfl)) (ft_invS mi_pq139 (by rfl)) (cy := mi_c139) mi_pq139 rfl (ke139_l00 hG.I hG.R x3) (by decide) ?_
      intro vg4 hg4
      rcases hg4 with ⟨eg4, hg4⟩ | ⟨eg4, hg4⟩
      ·
        subst eg4
        have z5 : ((0 : Int) ≤ x3.toInt) ∧ (x3.toInt ≤ 999) := hg4
        refine ft_go mi_k142 4 22 [(0, .ref 116), (1, .int x1), (2, .int x2), (3, .int x3)] [.int x2, .int x1, .ref 116] i a q r (by rfl) ?_
        refine ko_callPI mi_k142.1 (pc := 22) (ls := [(0, .ref 116), (1, .int x1), (2, .int x2), (3, .int x3)]) (st := [.int x2, .int x1, .ref 116]) (h := ks i a q r) (i := (.invokevirtual 147, 3, 140, 0, 9, 0, 389)) (mi_k142.2 _ _ (by rfl)) (ft_invS mi_pq140 (by rfl)) (cy := mi_c140) mi_pq140 rfl (ke140_116 hG.I hG.R x1 x2 (orm77 fi_7424.2 w3 z2) (orm78 w3)) (by decide) ?_
        intro vg6 hg6
        obtain ⟨hg6, og6⟩ := hg6
        have z7 : ((x2.toInt = 4) → (((1 : Int) ≤ vg6.toInt) ∧ (vg6.toInt ≤ 5))) := hg6
        have q8 : vg6 = rGet x1 x2 (a 118, a 117, i 7426, i 7427) := og6
        have u9 : vg6.toInt = (rGet x1 x2 (a 118, a 117, i 7426, i 7427)).toInt := congrArg Int32.toInt q8
        refine ft_go mi_k142 3 30 [(4, .int vg6), (0, .ref 116), (1, .int x1), (2, .int x2), (3, .int x3)] [.int x3, .int vg6] i a q r (by rfl) ?_
        refine ft_if mi_k142 (vg6 != x3) 36 33 [(4, .int vg6), (0, .ref 116), (1, .int x1), (2, .int x2), (3, .int x3)] [] (by rfl) (fun c => ?_) (fun c => ?_)
        ·
          have c10 : vg6.toInt ≠ x3.toInt := kd_ne c; clear c
          refine ft_go mi_k142 4 40 [(4, .int vg6), (0, .ref 116), (1, .int x1), (2, .int x2), (3, .int x3)] [.int x3, .int x2, .int x1, .ref 116] i a q r (by rfl) ?_
          refine ko_callN mi_k142.1 (pc := 40) (ls := [(4, .int vg6), (0, .ref 116), (1, .int x1), (2, .int x2), (3, .int x3)]) (st := [.int x3, .int x2, .int x1, .ref 116]) (h := ks i a q r) (i := (.invokevirtual 150, 3, 141, 0, 9, 0, 390)) (mi_k142.2 _ _ (by rfl)) (ft_invS mi_pq141 (by rfl)) (cy := mi_c141) mi_pq141 rfl (ke141_116 hG.I hG.R x1 x2 x3 (orm77 fi_7424.2 w3 z2) (orm78 w3) (orm2 w3)) (by decide) ?_
          intro ig11 ag11 qg11 rg11 kg11 hg11
          have hGg11 := kG_call hG kg11 (by decide +kernel)
          obtain ⟨hg11, og11⟩ := hg11
          have q12 : ag11 118 = (rSet x1 x2 x3 (a 118, a 117, i 7426, i 7427)).1 := og11.1
          have q13 : ag11 117 = (rSet x1 x2 x3 (a 118, a 117, i 7426, i 7427)).2.1 := og11.2.1
          have q14 : ig11 7426 = (rSet x1 x2 x3 (a 118, a 117, i 7426, i 7427)).2.2.1 := og11.2.2.1
          have q15 : ig11 7427 = (rSet x1 x2 x3 (a 118, a 117, i 7426, i 7427)).2.2.2 := og11.2.2.2
          have fig11_7453 : ((0 : Int) ≤ (ig11 7453).toInt) ∧ ((ig11 7453).toInt ≤ 40) := hGg11.I.1 7453
          have efig11_7453 : (ig11 7453).toInt = (i 7453).toInt := kg11.ti 7453 rfl
          refine ft_go mi_k142 3 49 [(4, .int vg6), (0, .ref 116), (1, .int x1), (2, .int x2), (3, .int x3)] [.int 40, .int (ig11 7453)] ig11 ag11 qg11 rg11 (by rfl) ?_
          refine ft_if mi_k142 ((ig11 7453) != 40) 95 52 [(4, .int vg6), (0, .ref 116), (1, .int x1), (2, .int x2), (3, .int x3)] [] (by rfl) (fun c => ?_) (fun c => ?_)
          ·
            have c16 : (ig11 7453).toInt ≠ (40 : Int32).toInt := kd_ne c; clear c
            have s17 : (4 * (ig11 7453)).toInt = 4 * (ig11 7453).toInt := kd_cmul 4 korm4 (orm79 fig11_7453.1) (orm80 fig11_7453.2)
            refine ft_go mi_k142 7 106 [(4, .int vg6), (0, .ref 116), (1, .int x1), (2, .int x2), (3, .int x3)] [.int x1, .int (4 * (ig11 7453)), .ref 133] ig11 ag11 qg11 rg11 (by rfl) ?_
            refine ko_iast3 mi_k142.1 (n := 160) (c := 160) (ax := (0, 0, 0, 0, 0)) (mi_k142.2 _ _ (by rfl)) (by rfl) (ksG133 _ _ _ _) (ksA133 _ _ _ _) (hGg11.I.2.1 133) rfl (orm81 fig11_7453.1 s17) (orm82 c16 fig11_7453.2 s17 korm40) ?_
            intro a18 ea18 fa18
            have hJ18 := kG_a3 hGg11 133 rfl ea18 fa18 (kE_cset (orm81 fig11_7453.1 s17) (orm83 fi_7424.2 w3 z2) (by have := korm40; omega))
            have s19 : ((4 * (ig11 7453)) + 1).toInt = (4 * (ig11 7453)).toInt + (1 : Int32).toInt := kd_add (orm84 fig11_7453.1 s17 korm1) (orm85 fig11_7453.2 s17 korm1)
            refine ft_go mi_k142 9 120 [(4, .int vg6), (0, .ref 116), (1, .int x1), (2, .int x2), (3, .int x3)] [.int x2, .int ((4 * (ig11 7453)) + 1), .ref 133] ig11 a18 qg11 rg11 (by rfl) ?_
            refine ko_iast3 mi_k142.1 (n := 160) (c := 160) (ax := (0, 0, 0, 0, 0)) (mi_k142.2 _ _ (by rfl)) (by rfl) (ksG133 _ _ _ _) (ksA133 _ _ _ _) (hJ18.I.2.1 133) rfl (orm86 fig11_7453.1 s17 s19 korm1) (orm87 c16 fig11_7453.2 s17 s19 korm40 korm1) ?_
            intro a20 ea20 fa20
            have hJ20 := kG_a3 hJ18 133 rfl ea20 fa20 (kE_cset (orm86 fig11_7453.1 s17 s19 korm1) (orm88 w3) (orm89 w3))
            have s21 : ((4 * (ig11 7453)) + 2).toInt = (4 * (ig11 7453)).toInt + (2 : Int32).toInt := kd_add (orm90 fig11_7453.1 s17 korm2) (orm91 fig11_7453.2 s17 korm2)
            refine ft_go mi_k142 9 135 [(4, .int vg6), (0, .ref 116), (1, .int x1), (2, .int x2), (3, .int x3)] [.int vg6, .int ((4 * (ig11 7453)) + 2), .ref 133] ig11 a20 qg11 rg11 (by rfl) ?_
            refine ko_iast3 mi_k142.1 (n := 160) (c := 160) (ax := (0, 0, 0, 0, 0)) (mi_k142.2 _ _ (by rfl)) (by rfl) (ksG133 _ _ _ _) (ksA133 _ _ _ _) (hJ20.I.2.1 133) rfl (orm92 fig11_7453.1 s17 s21 korm2) (orm93 c16 fig11_7453.2 s17 s21 korm40 korm2) ?_
            intro a22 ea22 fa22
            have hJ22 := kG_a3 hJ20 133 rfl ea22 fa22 (kE_cset (orm92 fig11_7453.1 s17 s21 korm2) (by have := korm1; have := korm2; have := korm40; omega) (by have := korm1; have := korm2; have := korm40; omega))
            have s23 : ((4 * (ig11 7453)) + 3).toInt = (4 * (ig11 7453)).toInt + (3 : Int32).toInt := kd_add (orm94 fig11_7453.1 s17 korm3) (orm95 fig11_7453.2 s17 korm3)
            refine ft_go mi_k142 9 149 [(4, .int vg6), (0, .ref 116), (1, .int x1), (2, .int x2), (3, .int x3)] [.int x3, .int ((4 * (ig11 7453)) + 3), .ref 133] ig11 a22 qg11 rg11 (by rfl) ?_
            refine ko_iast3 mi_k142.1 (n := 160) (c := 160) (ax := (0, 0, 0, 0, 0)) (mi_k142.2 _ _ (by rfl)) (by rfl) (ksG133 _ _ _ _) (ksA133 _ _ _ _) (hJ22.I.2.1 133) rfl (orm96 fig11_7453.1 s17 s23 korm3) (orm97 c16 fig11_7453.2 s17 s23 korm40 korm3) ?_
            intro a24 ea24 fa24
            have hJ24 := kG_a3 hJ22 133 rfl ea24 fa24 (kE_cset (orm96 fig11_7453.1 s17 s23 korm3) (by have := korm1; have := korm2; have := korm3; have := korm40; omega) (by have := korm1; have := korm2; have := korm3; have := korm40; omega))
            have s25 : ((ig11 7453) + 1).toInt = (ig11 7453).toInt + (1 : Int32).toInt := kd_add (orm98 fig11_7453.1 korm1) (orm99 fig11_7453.2 korm1)
            have hJ26 := kG_i hJ24 7453 rfl (v := ((ig11 7453) + 1)) ⟨(orm100 fig11_7453.1 s25 korm1), (orm101 c16 fig11_7453.2 s17 s25 korm40 korm1)⟩
            have hJ27 := kG_i hJ26 7452 rfl (v := ((ig11 7453) + 1)) ⟨(orm100 fig11_7453.1 s25 korm1), (orm101 c16 fig11_7453.2 s17 s25 korm40 korm1)⟩
            refine ft_go mi_k142 11 170 [(4, .int vg6), (0, .ref 116), (1, .int x1), (2, .int x2), (3, .int x3)] [.int vg6] (ku (ku ig11 7453 ((ig11 7453) + 1)) 7452 ((ig11 7453) + 1)) a24 qg11 rg11 (by rfl) ?_
            have bw28 : (kTold (i 7424) x1 x2 ∧ kFit x2 x3) := ⟨(orm103 w3 z2), (kFit_0 (orm104 w3)).mpr (orm105 z5.1 z5.2)⟩
            have bw29 : ¬ ((rGet x1 x2 (a 118, a 117, i 7426, i 7427)).toInt = x3.toInt) := (orm106 c10 u9)
            have bw30 : ¬ ((i 7453).toInt = 40) := (orm107 c16 efig11_7453 fig11_7453.2 s17 korm40)
            exact ft_ret mi_k142 (by rfl) (hP vg6 _ _ _ _ hJ27 ⟨orm102, ⟨⟨(show vg6 = (rMend (i 7424) x1 x2 x3 (a 118, a 117, i 7426, i 7427) (a 133, i 7452, i 7453)).1 from (by unfold rMend; unfold rAdd; simp only [if_pos bw28, if_neg bw29, if_neg bw30]; (try unfold rPut); first | done | rfl | (simp only [q8, sMn, sMx]; done) | (simp only [q8, sMn, sMx]; rfl))), (show a24 118 = ((rMend (i 7424) x1 x2 x3 (a 118, a 117, i 7426, i 7427) (a 133, i 7452, i 7453)).2.1).1 from (by unfold rMend; unfold rAdd; simp only [if_pos bw28, if_neg bw29, if_neg bw30]; (try unfold rPut); first | done | rfl | (simp only [fa24 118 (by decide), fa22 118 (by decide), fa20 118 (by decide), fa18 118 (by decide), q12, sMn, sMx]; done) | (simp only [fa24 118 (by decide), fa22 118 (by decide), fa20 118 (by decide), fa18 118 (by decide), q12, sMn, sMx]; rfl))), (show a24 117 = ((rMend (i 7424) x1 x2 x3 (a 118, a 117, i 7426, i 7427) (a 133, i 7452, i 7453)).2.1).2.1 from (by unfold rMend; unfold rAdd; simp only [if_pos bw28, if_neg bw29, if_neg bw30]; (try unfold rPut); first | done | rfl | (simp only [fa24 117 (by decide), fa22 117 (by decide), fa20 117 (by decide), fa18 117 (by decide), q13, sMn, sMx]; done) | (simp only [fa24 117 (by decide), fa22 117 (by decide), fa20 117 (by decide), fa18 117 (by decide), q13, sMn, sMx]; rfl))), (show ig11 7426 = ((rMend (i 7424) x1 x2 x3 (a 118, a 117, i 7426, i 7427) (a 133, i 7452, i 7453)).2.1).2.2.1 from (by unfold rMend; unfold rAdd; simp only [if_pos bw28, if_neg bw29, if_neg bw30]; (try unfold rPut); first | done | rfl | (simp only [q14, sMn, sMx]; done) | (simp only [q14, sMn, sMx]; rfl))), (show ig11 7427 = ((rMend (i 7424) x1 x2 x3 (a 118, a 117, i 7426, i 7427) (a 133, i 7452, i 7453)).2.1).2.2.2 from (by unfold rMend; unfold rAdd; simp only [if_pos bw28, if_neg bw29, if_neg bw30]; (try unfold rPut); first | done | rfl | (simp only [q15, sMn, sMx]; done) | (simp only [q15, sMn, sMx]; rfl))), (show a24 133 = ((rMend (i 7424) x1 x2 x3 (a 118, a 117, i 7426, i 7427) (a 133, i 7452, i 7453)).2.2).1 from (by unfold rMend; unfold rAdd; simp only [if_pos bw28, if_neg bw29, if_neg bw30]; (try unfold rPut); first | done | rfl | (simp only [ea24, ea22, (show ig11 7453 = i 7453 from kg11.fi 7453 rfl), ea20, q8, ea18, kg11.fa 133 rfl, sMn, sMx]; done) | (simp only [ea24, ea22, (show ig11 7453 = i 7453 from kg11.fi 7453 rfl), ea20, q8, ea18, kg11.fa 133 rfl, sMn, sMx]; rfl))), (show ((ig11 7453) + 1) = ((rMend (i 7424) x1 x2 x3 (a 118, a 117, i 7426, i 7427) (a 133, i 7452, i 7453)).2.2).2.1 from (by unfold rMend; unfold rAdd; simp only [if_pos bw28, if_neg bw29, if_neg bw30]; (try unfold rPut); first | done | rfl | (simp only [(show ig11 7453 = i 7453 from kg11.fi 7453 rfl), sMn, sMx]; done) | (simp only [(show ig11 7453 = i 7453 from kg11.fi 7453 rfl), sMn, sMx]; rfl))), (show ((ig11 7453) + 1) = ((rMend (i 7424) x1 x2 x3 (a 118, a 117, i 7426, i 7427) (a 133, i 7452, i 7453)).2.2).2.2 from (by unfold rMend; unfold rAdd; simp only [if_pos bw28, if_neg bw29, if_neg bw30]; (try unfold rPut); first | done | rfl | (simp only [(show ig11 7453 = i 7453 from kg11.fi 7453 rfl), sMn, sMx]; done) | (simp only [(show ig11 7453 = i 7453 from kg11.fi 7453 rfl), sMn, sMx]; rfl)))⟩, (kChL_cast (kChL_set4 (kChL_cast hE_chg (kg11.fa 133 rfl)) (hGg11.I.2.1 133) (d := (ig11 7453)) (orm0 fig11_7453.1) (orm113 c16 fig11_7453.2 s17 korm40) (orm108 s17) (orm109 s17 s19 korm1) (orm110 s17 s21 korm2) (orm111 s17 s23 korm3) ea18 ea20 ea22 ea24 (orm112 w3)) rfl)⟩⟩)
          ·
            have c31 : (ig11 7453).toInt = (40 : Int32).toInt := kd_neF c; clear c
            refine ft_go mi_k142 2 55 [(5, .int 0), (4, .int vg6), (0, .ref 116), (1, .int x1), (2, .int x2), (3, .int x3)] [] ig11 ag11 qg11 rg11 (by rfl) ?_
            have lp32 : ∀ (nz : Nat) (i32 : Nat → Int32) (a32 : Nat → List Int32) (q32 : Nat → List Int64) (r32 : Nat → Nat) (l5_32 : Int32), kG yw142_116_L55 ig11 ag11 qg11 rg11 i32 a32 q32 r32 → ((0 : Int) ≤ l5_32.toInt) ∧ (l5_32.toInt ≤ 156) → kShf (ag11 133) (a32 133) l5_32.toInt.toNat → ((156 - l5_32.toInt)).toNat < nz → ko 7 (mi_h142, mi_c142) P (55, [(5, .int l5_32), (4, .int vg6), (0, .ref 116), (1, .int x1), (2, .int x2), (3, .int x3)], [], (0, 0), ks i32 a32 q32 r32) := by
              intro nz
              induction nz with
              | zero =>
                intro _ _ _ _ _ _ _ _ hm
                exact absurd hm (Nat.not_lt_zero _)
              | succ nz ih32 =>
                intro i32 a32 q32 r32 l5_32 hL32 p32_0 O32_0 hm32
                refine ft_go mi_k142 2 60 [(5, .int l5_32), (4, .int vg6), (0, .ref 116), (1, .int x1), (2, .int x2), (3, .int x3)] [.int 156, .int l5_32] i32 a32 q32 r32 (by rfl) ?_
                refine ft_if mi_k142 (decide (156 ≤ l5_32)) 85 63 [(5, .int l5_32), (4, .int vg6), (0, .ref 116), (1, .int x1), (2, .int x2), (3, .int x3)] [] (by rfl) (fun c => ?_) (fun c => ?_)
                ·
                  have c33 : (156 : Int32).toInt ≤ l5_32.toInt := kd_le c; clear c
                  have hG34 := kG_call hGg11 hL32 (by decide +kernel)
                  have qs35 : a32 133 = rShf (ag11 133) := kShf_eq O32_0 (orm114 c33 p32_0.2 korm156) (hGg11.I.2.1 133) (hG34.I.2.1 133)
                  have fi32_7453 : ((0 : Int) ≤ (i32 7453).toInt) ∧ ((i32 7453).toInt ≤ 40) := hG34.I.1 7453
                  have efi32_7453 : (i32 7453).toInt = (ig11 7453).toInt := hL32.ti 7453 rfl
                  have s36 : ((i32 7453) - 1).toInt = (i32 7453).toInt - (1 : Int32).toInt := kd_sub (orm115 c31 efi32_7453 korm40 korm1) (orm116 fi32_7453.2 korm1)
                  have hJ37 := kG_i hG34 7453 rfl (v := ((i32 7453) - 1)) ⟨(orm117 c31 efi32_7453 s36 korm40 korm1), (orm118 fi32_7453.2 s36 korm1)⟩
                  have s38 : (4 * ((i32 7453) - 1)).toInt = 4 * ((i32 7453) - 1).toInt := kd_cmul 4 korm4 (orm119 fi32_7453.1 s36 korm1) (orm120 fi32_7453.2 s36 korm1)
                  refine ft_go mi_k142 13 106 [(5, .int l5_32), (4, .int vg6), (0, .ref 116), (1, .int x1), (2, .int x2), (3, .int x3)] [.int x1, .int (4 * ((i32 7453) - 1)), .ref 133] (ku i32 7453 ((i32 7453) - 1)) a32 q32 r32 (by rfl) ?_
                  refine ko_iast3 mi_k142.1 (n := 160) (c := 160) (ax := (0, 0, 0, 0, 0)) (mi_k142.2 _ _ (by rfl)) (by rfl) (ksG133 _ _ _ _) (ksA133 _ _ _ _) (hJ37.I.2.1 133) rfl (orm121 c31 efi32_7453 s36 s38 korm40 korm1) (orm122 fi32_7453.2 s36 s38 korm1) ?_
                  intro a39 ea39 fa39
                  have hJ39 := kG_a3 hJ37 133 rfl ea39 fa39 (kE_cset (orm121 c31 efi32_7453 s36 s38 korm40 korm1) (orm83 fi_7424.2 w3 z2) (by have := korm1; have := korm40; have := korm156; omega))
                  have s40 : ((4 * ((i32 7453) - 1)) + 1).toInt = (4 * ((i32 7453) - 1)).toInt + (1 : Int32).toInt := kd_add (orm123 c31 efi32_7453 s36 s38 korm40 korm1) (orm124 fi32_7453.2 s36 s38 korm1)
                  refine ft_go mi_k142 9 120 [(5, .int l5_32), (4, .int vg6), (0, .ref 116), (1, .int x1), (2, .int x2), (3, .int x3)] [.int x2, .int ((4 * ((i32 7453) - 1)) + 1), .ref 133] (ku i32 7453 ((i32 7453) - 1)) a39 q32 r32 (by rfl) ?_
                  refine ko_iast3 mi_k142.1 (n := 160) (c := 160) (ax := (0, 0, 0, 0, 0)) (mi_k142.2 _ _ (by rfl)) (by rfl) (ksG133 _ _ _ _) (ksA133 _ _ _ _) (hJ39.I.2.1 133) rfl (orm125 c31 efi32_7453 s36 s38 s40 korm40 korm1) (orm126 fi32_7453.2 s36 s38 s40 korm1) ?_
                  intro a41 ea41 fa41
                  have hJ41 := kG_a3 hJ39 133 rfl ea41 fa41 (kE_cset (orm125 c31 efi32_7453 s36 s38 s40 korm40 korm1) (orm127 c31 efi32_7453 fi32_7453.2 s36 s38 s40 korm40 korm1) (orm89 w3))
                  have s42 : ((4 * ((i32 7453) - 1)) + 2).toInt = (4 * ((i32 7453) - 1)).toInt + (2 : Int32).toInt := kd_add (orm128 c31 efi32_7453 s36 s38 korm40 korm1 korm2) (orm129 fi32_7453.2 s36 s38 korm1 korm2)
                  refine ft_go mi_k142 9 135 [(5, .int l5_32), (4, .int vg6), (0, .ref 116), (1, .int x1), (2, .int x2), (3, .int x3)] [.int vg6, .int ((4 * ((i32 7453) - 1)) + 2), .ref 133] (ku i32 7453 ((i32 7453) - 1)) a41 q32 r32 (by rfl) ?_
                  refine ko_iast3 mi_k142.1 (n := 160) (c := 160) (ax := (0, 0, 0, 0, 0)) (mi_k142.2 _ _ (by rfl)) (by rfl) (ksG133 _ _ _ _) (ksA133 _ _ _ _) (hJ41.I.2.1 133) rfl (orm130 c31 efi32_7453 s36 s38 s42 korm40 korm1 korm2) (orm131 fi32_7453.2 s36 s38 s42 korm1 korm2) ?_
                  intro a43 ea43 fa43
                  have hJ43 := kG_a3 hJ41 133 rfl ea43 fa43 (kE_cset (orm130 c31 efi32_7453 s36 s38 s42 korm40 korm1 korm2) (orm132 c31 efi32_7453 fi32_7453.2 s36 s38 s42 korm40 korm1 korm2) (orm133 c31 efi32_7453 fi32_7453.2 s36 s38 s42 korm40 korm1 korm2))
                  have s44 : ((4 * ((i32 7453) - 1)) + 3).toInt = (4 * ((i32 7453) - 1)).toInt + (3 : Int32).toInt := kd_add (orm134 c31 efi32_7453 s36 s38 korm40 korm1 korm3) (orm135 fi32_7453.2 s36 s38 korm1 korm3)
                  refine ft_go mi_k142 9 149 [(5, .int l5_32), (4, .int vg6), (0, .ref 116), (1, .int x1), (2, .int x2), (3, .int x3)] [.int x3, .int ((4 * ((i32 7453) - 1)) + 3), .ref 133] (ku i32 7453 ((i32 7453) - 1)) a43 q32 r32 (by rfl) ?_
                  refine ko_iast3 mi_k142.1 (n := 160) (c := 160) (ax := (0, 0, 0, 0, 0)) (mi_k142.2 _ _ (by rfl)) (by rfl) (ksG133 _ _ _ _) (ksA133 _ _ _ _) (hJ43.I.2.1 133) rfl (orm136 c31 efi32_7453 s36 s38 s44 korm40 korm1 korm3) (orm137 fi32_7453.2 s36 s38 s44 korm1 korm3) ?_
                  intro a45 ea45 fa45
                  have hJ45 := kG_a3 hJ43 133 rfl ea45 fa45 (kE_cset (orm136 c31 efi32_7453 s36 s38 s44 korm40 korm1 korm3) (orm138 c31 efi32_7453 fi32_7453.2 s36 s38 s44 korm40 korm1 korm3) (orm139 c31 efi32_7453 fi32_7453.2 s36 s38 s44 korm40 korm1 korm3))
                  have s46 : (((i32 7453) - 1) + 1).toInt = ((i32 7453) - 1).toInt + (1 : Int32).toInt := kd_add (orm140 fi32_7453.1 s36 korm1) (orm141 fi32_7453.2 s36 s38 korm1)
                  have hJ47 := kG_i hJ45 7453 rfl (v := (((i32 7453) - 1) + 1)) ⟨(orm142 fi32_7453.1 s36 s46 korm1), (orm143 fi32_7453.2 s36 s38 s46 korm1)⟩
                  have hJ48 := kG_i hJ47 7452 rfl (v := (((i32 7453) - 1) + 1)) ⟨(orm142 fi32_7453.1 s36 s46 korm1), (orm143 fi32_7453.2 s36 s38 s46 korm1)⟩
                  refine ft_go mi_k142 11 170 [(5, .int l5_32), (4, .int vg6), (0, .ref 116), (1, .int x1), (2, .int x2), (3, .int x3)] [.int vg6] (ku (ku (ku i32 7453 ((i32 7453) - 1)) 7453 (((i32 7453) - 1) + 1)) 7452 (((i32 7453) - 1) + 1)) a45 q32 r32 (by rfl) ?_
                  have bw49 : (kTold (i 7424) x1 x2 ∧ kFit x2 x3) := ⟨(orm103 w3 z2), (kFit_0 (orm104 w3)).mpr (orm105 z5.1 z5.2)⟩
                  have bw50 : ¬ ((rGet x1 x2 (a 118, a 117, i 7426, i 7427)).toInt = x3.toInt) := (orm106 c10 u9)
                  have bw51 : (i 7453).toInt = 40 := (orm144 c31 efig11_7453 fi_7453.2 korm40)
                  exact ft_ret mi_k142 (by rfl) (hP vg6 _ _ _ _ hJ48 ⟨orm102, ⟨⟨(show vg6 = (rMend (i 7424) x1 x2 x3 (a 118, a 117, i 7426, i 7427) (a 133, i 7452, i 7453)).1 from (by unfold rMend; unfold rAdd; simp only [if_pos bw49, if_neg bw50, if_pos bw51]; (try unfold rPut); first | done | rfl | (simp only [q8, sMn, sMx]; done) | (simp only [q8, sMn, sMx]; rfl))), (show a45 118 = ((rMend (i 7424) x1 x2 x3 (a 118, a 117, i 7426, i 7427) (a 133, i 7452, i 7453)).2.1).1 from (by unfold rMend; unfold rAdd; simp only [if_pos bw49, if_neg bw50, if_pos bw51]; (try unfold rPut); first | done | rfl | (simp only [fa45 118 (by decide), fa43 118 (by decide), fa41 118 (by decide), fa39 118 (by decide), hL32.fa 118 rfl, q12, sMn, sMx]; done) | (simp only [fa45 118 (by decide), fa43 118 (by decide), fa41 118 (by decide), fa39 118 (by decide), hL32.fa 118 rfl, q12, sMn, sMx]; rfl))), (show a45 117 = ((rMend (i 7424) x1 x2 x3 (a 118, a 117, i 7426, i 7427) (a 133, i 7452, i 7453)).2.1).2.1 from (by unfold rMend; unfold rAdd; simp only [if_pos bw49, if_neg bw50, if_pos bw51]; (try unfold rPut); first | done | rfl | (simp only [fa45 117 (by decide), fa43 117 (by decide), fa41 117 (by decide), fa39 117 (by decide), hL32.fa 117 rfl, q13, sMn, sMx]; done) | (simp only [fa45 117 (by decide), fa43 117 (by decide), fa41 117 (by decide), fa39 117 (by decide), hL32.fa 117 rfl, q13, sMn, sMx]; rfl))), (show i32 7426 = ((rMend (i 7424) x1 x2 x3 (a 118, a 117, i 7426, i 7427) (a 133, i 7452, i 7453)).2.1).2.2.1 from (by unfold rMend; unfold rAdd; simp only [if_pos bw49, if_neg bw50, if_pos bw51]; (try unfold rPut); first | done | rfl | (simp only [(show i32 7426 = ig11 7426 from hL32.fi 7426 rfl), q14, sMn, sMx]; done) | (simp only [(show i32 7426 = ig11 7426 from hL32.fi 7426 rfl), q14, sMn, sMx]; rfl))), (show i32 7427 = ((rMend (i 7424) x1 x2 x3 (a 118, a 117, i 7426, i 7427) (a 133, i 7452, i 7453)).2.1).2.2.2 from (by unfold rMend; unfold rAdd; simp only [if_pos bw49, if_neg bw50, if_pos bw51]; (try unfold rPut); first | done | rfl | (simp only [(show i32 7427 = ig11 7427 from hL32.fi 7427 rfl), q15, sMn, sMx]; done) | (simp only [(show i32 7427 = ig11 7427 from hL32.fi 7427 rfl), q15, sMn, sMx]; rfl))), (show a45 133 = ((rMend (i 7424) x1 x2 x3 (a 118, a 117, i 7426, i 7427) (a 133, i 7452, i 7453)).2.2).1 from (by unfold rMend; unfold rAdd; simp only [if_pos bw49, if_neg bw50, if_pos bw51]; (try unfold rPut); first | done | rfl | (simp only [ea45, ea43, (show i32 7453 = ig11 7453 from hL32.fi 7453 rfl), (show ig11 7453 = i 7453 from kg11.fi 7453 rfl), ea41, q8, ea39, qs35, kg11.fa 133 rfl, sMn, sMx]; done) | (simp only [ea45, ea43, (show i32 7453 = ig11 7453 from hL32.fi 7453 rfl), (show ig11 7453 = i 7453 from kg11.fi 7453 rfl), ea41, q8, ea39, qs35, kg11.fa 133 rfl, sMn, sMx]; rfl))), (show (((i32 7453) - 1) + 1) = ((rMend (i 7424) x1 x2 x3 (a 118, a 117, i 7426, i 7427) (a 133, i 7452, i 7453)).2.2).2.1 from (by unfold rMend; unfold rAdd; simp only [if_pos bw49, if_neg bw50, if_pos bw51]; (try unfold rPut); first | done | rfl | (simp only [(show i32 7453 = ig11 7453 from hL32.fi 7453 rfl), (show ig11 7453 = i 7453 from kg11.fi 7453 rfl), sMn, sMx]; done) | (simp only [(show i32 7453 = ig11 7453 from hL32.fi 7453 rfl), (show ig11 7453 = i 7453 from kg11.fi 7453 rfl), sMn, sMx]; rfl))), (show (((i32 7453) - 1) + 1) = ((rMend (i 7424) x1 x2 x3 (a 118, a 117, i 7426, i 7427) (a 133, i 7452, i 7453)).2.2).2.2 from (by unfold rMend; unfold rAdd; simp only [if_pos bw49, if_neg bw50, if_pos bw51]; (try unfold rPut); first | done | rfl | (simp only [(show i32 7453 = ig11 7453 from hL32.fi 7453 rfl), (show ig11 7453 = i 7453 from kg11.fi 7453 rfl), sMn, sMx]; done) | (simp only [(show i32 7453 = ig11 7453 from hL32.fi 7453 rfl), (show ig11 7453 = i 7453 from kg11.fi 7453 rfl), sMn, sMx]; rfl)))⟩, (kChL_cast (kChL_set4 (kChL_cast (kShf_end O32_0 (orm114 c33 p32_0.2 korm156) (hL32.I.2.1 133) (kChL_cast hE_chg (kg11.fa 133 rfl))) rfl) (hJ37.I.2.1 133) (d := ((i32 7453) - 1)) (orm117 c31 efi32_7453 s36 korm40 korm1) (orm145 fi32_7453.2 s36 s38 korm1) (orm108 s38) (orm109 s38 s40 korm1) (orm110 s38 s42 korm2) (orm111 s38 s44 korm3) ea39 ea41 ea43 ea45 (orm112 w3)) rfl)⟩⟩)
                ·
                  have c52 : l5_32.toInt < (156 : Int32).toInt := kd_leF c; clear c
                  have s53 : (l5_32 + 4).toInt = l5_32.toInt + (4 : Int32).toInt := kd_add (orm146 p32_0.1 korm4) (orm147 p32_0.2 korm4)
                  refine ft_go mi_k142 8 77 [(5, .int l5_32), (4, .int vg6), (0, .ref 116), (1, .int x1), (2, .int x2), (3, .int x3)] [.int (l5_32 + 4), .ref 133, .int l5_32, .ref 133] i32 a32 q32 r32 (by rfl) ?_
                  refine ko_iald3 mi_k142.1 (n := 160) (c := 160) (ax := (0, 0, 0, 0, 0)) (mi_k142.2 _ _ (by rfl)) (by rfl) (ksG133 _ _ _ _) (hL32.I.2.1 133) rfl (orm148 p32_0.1 s53 korm4) (orm149 c52 s53 korm156 korm4) ?_
                  have r54 : ((((l5_32 + 4).toInt % 4) = 0 → (0 : Int) ≤ ((a32 133).getD (l5_32 + 4).toNatClampNeg 0).toInt ∧ ((a32 133).getD (l5_32 + 4).toNatClampNeg 0).toInt ≤ 7)) ∧ ((((l5_32 + 4).toInt % 4) = 1 → (0 : Int) ≤ ((a32 133).getD (l5_32 + 4).toNatClampNeg 0).toInt ∧ ((a32 133).getD (l5_32 + 4).toNatClampNeg 0).toInt ≤ 6)) := kE_ccond hL32.I (j := (l5_32 + 4)) (orm148 p32_0.1 s53 korm4)
                  refine ko_iast3 mi_k142.1 (n := 160) (c := 160) (ax := (0, 0, 0, 0, 0)) (mi_k142.2 _ _ (by rfl)) (by rfl) (ksG133 _ _ _ _) (ksA133 _ _ _ _) (hL32.I.2.1 133) rfl (orm0 p32_0.1) (orm150 p32_0.2) ?_
                  intro a55 ea55 fa55
                  have hJ55 := kG_a3 hL32 133 rfl ea55 fa55 (kE_cset (orm0 p32_0.1) (by have := korm4; have := korm40; have := korm156; omega) (by have := korm4; have := korm40; have := korm156; omega))
                  have s56 : (l5_32 + 1).toInt = l5_32.toInt + (1 : Int32).toInt := kd_add (orm98 p32_0.1 korm1) (orm151 p32_0.2 korm1)
                  refine ft_go mi_k142 2 55 [(5, .int (l5_32 + 1)), (4, .int vg6), (0, .ref 116), (1, .int x1), (2, .int x2), (3, .int x3)] [] i32 a55 q32 r32 (by rfl) ?_
                  exact ih32 _ _ _ _ _ hJ55 (orm152 c52 p32_0.1 s56 korm156 korm1) (kShf_step O32_0 (hL32.I.2.1 133) (orm0 p32_0.1) (orm153 c52 korm156) (orm154 s53 korm4) (orm155 s56 korm1) ea55 rfl) (kj_meas (orm156 s56 korm1) (orm157 c52 korm156) hm32)
            exact lp32 _ _ _ _ _ _ (kG_self _ hGg11.I hGg11.R) (orm158 korm0) (kShf_start rfl kn0) (Nat.lt_succ_self _)
        ·
          have c57 : vg6.toInt = x3.toInt := kd_neF c; clear c
          refine ft_go mi_k142 1 35 [(4, .int vg6), (0, .ref 116), (1, .int x1), (2, .int x2), (3, .int x3)] [.int vg6] i a q r (by rfl) ?_
          have bw58 : (kTold (i 7424) x1 x2 ∧ kFit x2 x3) := ⟨(orm103 w3 z2), (kFit_0 (orm104 w3)).mpr (orm105 z5.1 z5.2)⟩
          have bw59 : (rGet x1 x2 (a 118, a 117, i 7426, i 7427)).toInt = x3.toInt := (orm160 c57 u9)
          exact ft_ret mi_k142 (by rfl) (hP vg6 _ _ _ _ hG ⟨(orm159 hp0), ⟨⟨(show vg6 = (rMend (i 7424) x1 x2 x3 (a 118, a 117, i 7426, i 7427) (a 133, i 7452, i 7453)).1 from (by unfold rMend; simp only [if_pos bw58, if_pos bw59]; first | done | rfl | (simp only [q8, sMn, sMx]; done) | (simp only [q8, sMn, sMx]; rfl))), (show a 118 = ((rMend (i 7424) x1 x2 x3 (a 118, a 117, i 7426, i 7427) (a 133, i 7452, i 7453)).2.1).1 from (by unfold rMend; simp only [if_pos bw58, if_pos bw59]; first | done | rfl | (simp only [sMn, sMx]; done) | (simp only [sMn, sMx]; rfl))), (show a 117 = ((rMend (i 7424) x1 x2 x3 (a 118, a 117, i 7426, i 7427) (a 133, i 7452, i 7453)).2.1).2.1 from (by unfold rMend; simp only [if_pos bw58, if_pos bw59]; first | done | rfl | (simp only [sMn, sMx]; done) | (simp only [sMn, sMx]; rfl))), (show i 7426 = ((rMend (i 7424) x1 x2 x3 (a 118, a 117, i 7426, i 7427) (a 133, i 7452, i 7453)).2.1).2.2.1 from (by unfold rMend; simp only [if_pos bw58, if_pos bw59]; first | done | rfl | (simp only [sMn, sMx]; done) | (simp only [sMn, sMx]; rfl))), (show i 7427 = ((rMend (i 7424) x1 x2 x3 (a 118, a 117, i 7426, i 7427) (a 133, i 7452, i 7453)).2.1).2.2.2 from (by unfold rMend; simp only [if_pos bw58, if_pos bw59]; first | done | rfl | (simp only [sMn, sMx]; done) | (simp only [sMn, sMx]; rfl))), (show a 133 = ((rMend (i 7424) x1 x2 x3 (a 118, a 117, i 7426, i 7427) (a 133, i 7452, i 7453)).2.2).1 from (by unfold rMend; simp only [if_pos bw58, if_pos bw59]; first | done | rfl | (simp only [sMn, sMx]; done) | (simp only [sMn, sMx]; rfl))), (show i 7452 = ((rMend (i 7424) x1 x2 x3 (a 118, a 117, i 7426, i 7427) (a 133, i 7452, i 7453)).2.2).2.1 from (by unfold rMend; simp only [if_pos bw58, if_pos bw59]; first | done | rfl | (simp only [sMn, sMx]; done) | (simp only [sMn, sMx]; rfl))), (show i 7453 = ((rMend (i 7424) x1 x2 x3 (a 118, a 117, i 7426, i 7427) (a 133, i 7452, i 7453)).2.2).2.2 from (by unfold rMend; simp only [if_pos bw58, if_pos bw59]; first | done | rfl | (simp only [sMn, sMx]; done) | (simp only [sMn, sMx]; rfl)))⟩, (kChL_cast hE_chg rfl)⟩⟩)
      ·
        subst eg4
        have z60 : ¬ (((0 : Int) ≤ x3.toInt) ∧ (x3.toInt ≤ 999)) := hg4
        refine ft_go mi_k142 2 18 [(0, .ref 116), (1, .int x1), (2, .int x2), (3, .int x3)] [.int (-1)] i a q r (by rfl) ?_
        have bw61 : ¬ (kTold (i 7424) x1 x2 ∧ kFit x2 x3) := (fun z => absurd ((kFit_0 (orm104 w3)).mp z.2) (orm161 z60))
        exact ft_ret mi_k142 (by rfl) (hP (-1) _ _ _ _ hG ⟨(orm159 hp0), ⟨⟨(show ((-1) : Int32) = (rMend (i 7424) x1 x2 x3 (a 118, a 117, i 7426, i 7427) (a 133, i 7452, i 7453)).1 from (by unfold rMend; simp only [if_neg bw61]; first | done | rfl | (simp only [sMn, sMx]; done) | (simp only [sMn, sMx]; rfl))), (show a 118 = ((rMend (i 7424) x1 x2 x3 (a 118, a 117, i 7426, i 7427) (a 133, i 7452, i 7453)).2.1).1 from (by unfold rMend; simp only [if_neg bw61]; first | done | rfl | (simp only [sMn, sMx]; done) | (simp only [sMn, sMx]; rfl))), (show a 117 = ((rMend (i 7424) x1 x2 x3 (a 118, a 117, i 7426, i 7427) (a 133, i 7452, i 7453)).2.1).2.1 from (by unfold rMend; simp only [if_neg bw61]; first | done | rfl | (simp only [sMn, sMx]; done) | (simp only [sMn, sMx]; rfl))), (show i 7426 = ((rMend (i 7424) x1 x2 x3 (a 118, a 117, i 7426, i 7427) (a 133, i 7452, i 7453)).2.1).2.2.1 from (by unfold rMend; simp only [if_neg bw61]; first | done | rfl | (simp only [sMn, sMx]; done) | (simp only [sMn, sMx]; rfl))), (show i 7427 = ((rMend (i 7424) x1 x2 x3 (a 118, a 117, i 7426, i 7427) (a 133, i 7452, i 7453)).2.1).2.2.2 from (by unfold rMend; simp only [if_neg bw61]; first | done | rfl | (simp only [sMn, sMx]; done) | (simp only [sMn, sMx]; rfl))), (show a 133 = ((rMend (i 7424) x1 x2 x3 (a 118, a 117, i 7426, i 7427) (a 133, i 7452, i 7453)).2.2).1 from (by unfold rMend; simp only [if_neg bw61]; first | done | rfl | (simp only [sMn, sMx]; done) | (simp only [sMn, sMx]; rfl))), (show i 7452 = ((rMend (i 7424) x1 x2 x3 (a 118, a 117, i 7426, i 7427) (a 133, i 7452, i 7453)).2.2).2.1 from (by unfold rMend; simp only [if_neg bw61]; first | done | rfl | (simp only [sMn, sMx]; done) | (simp only [sMn, sMx]; rfl))), (show i 7453 = ((rMend (i 7424) x1 x2 x3 (a 118, a 117, i 7426, i 7427) (a 133, i 7452, i 7453)).2.2).2.2 from (by unfold rMend; simp only [if_neg bw61]; first | done | rfl | (simp only [sMn, sMx]; done) | (simp only [sMn, sMx]; rfl)))⟩, (kChL_cast hE_chg rfl)⟩⟩)
    by_cases w62 : x2.toInt = 1
    ·
      refine ko_eq (x1 := (11, [(0, .ref 116), (1, .int x1), (2, .int x2), (3, .int x3)], [.int x3, .int 1], (0, 0), ks i a q r)) (by rw [(kj_eq w62 (by decide) : x2 = 1)]) ?_
      refine ko_callPI mi_k142.1 (pc := 11) (ls := [(0, .ref 116), (1, .int x1), (2, .int x2), (3, .int x3)]) (st := [.int x3, .int 1]) (h := ks i a q r) (i := (.invokestatic 144, 3, 139, 0, 9, 0, 388)) (mi_k142.2 _ _ (by rfl)) (ft_invS mi_pq139 (by rfl)) (cy := mi_c139) mi_pq139 rfl (ke139_l01 hG.I hG.R x3) (by decide) ?_
      intro vg63 hg63
      rcases hg63 with ⟨eg63, hg63⟩ | ⟨eg63, hg63⟩
      ·
        subst eg63
        have z64 : ((0 : Int) ≤ x3.toInt) ∧ (x3.toInt ≤ 9) := hg63
        refine ft_go mi_k142 4 22 [(0, .ref 116), (1, .int x1), (2, .int x2), (3, .int x3)] [.int x2, .int x1, .ref 116] i a q r (by rfl) ?_
        refine ko_callPI mi_k142.1 (pc := 22) (ls := [(0, .ref 116), (1, .int x1), (2, .int x2), (3, .int x3)]) (st := [.int x2, .int x1, .ref 116]) (h := ks i a q r) (i := (.invokevirtual 147, 3, 140, 0, 9, 0, 389)) (mi_k142.2 _ _ (by rfl)) (ft_invS mi_pq140 (by rfl)) (cy := mi_c140) mi_pq140 rfl (ke140_116 hG.I hG.R x1 x2 (orm164 fi_7424.2 w62 z2) (orm165 w62)) (by decide) ?_
        intro vg65 hg65
        obtain ⟨hg65, og65⟩ := hg65
        have z66 : ((x2.toInt = 4) → (((1 : Int) ≤ vg65.toInt) ∧ (vg65.toInt ≤ 5))) := hg65
        have q67 : vg65 = rGet x1 x2 (a 118, a 117, i 7426, i 7427) := og65
        have u68 : vg65.toInt = (rGet x1 x2 (a 118, a 117, i 7426, i 7427)).toInt := congrArg Int32.toInt q67
        refine ft_go mi_k142 3 30 [(4, .int vg65), (0, .ref 116), (1, .int x1), (2, .int x2), (3, .int x3)] [.int x3, .int vg65] i a q r (by rfl) ?_
        refine ft_if mi_k142 (vg65 != x3) 36 33 [(4, .int vg65), (0, .ref 116), (1, .int x1), (2, .int x2), (3, .int x3)] [] (by rfl) (fun c => ?_) (fun c => ?_)
        ·
          have c69 : vg65.toInt ≠ x3.toInt := kd_ne c; clear c
          refine ft_go mi_k142 4 40 [(4, .int vg65), (0, .ref 116), (1, .int x1), (2, .int x2), (3, .int x3)] [.int x3, .int x2, .int x1, .ref 116] i a q r (by rfl) ?_
          refine ko_callN mi_k142.1 (pc := 40) (ls := [(4, .int vg65), (0, .ref 116), (1, .int x1), (2, .int x2), (3, .int x3)]) (st := [.int x3, .int x2, .int x1, .ref 116]) (h := ks i a q r) (i := (.invokevirtual 150, 3, 141, 0, 9, 0, 390)) (mi_k142.2 _ _ (by rfl)) (ft_invS mi_pq141 (by rfl)) (cy := mi_c141) mi_pq141 rfl (ke141_116 hG.I hG.R x1 x2 x3 (orm164 fi_7424.2 w62 z2) (orm165 w62) (orm12 w62)) (by decide) ?_
          intro ig70 ag70 qg70 rg70 kg70 hg70
          have hGg70 := kG_call hG kg70 (by decide +kernel)
          obtain ⟨hg70, og70⟩ := hg70
          have q71 : ag70 118 = (rSet x1 x2 x3 (a 118, a 117, i 7426, i 7427)).1 := og70.1
          have q72 : ag70 117 = (rSet x1 x2 x3 (a 118, a 117, i 7426, i 7427)).2.1 := og70.2.1
          have q73 : ig70 7426 = (rSet x1 x2 x3 (a 118, a 117, i 7426, i 7427)).2.2.1 := og70.2.2.1
          have q74 : ig70 7427 = (rSet x1 x2 x3 (a 118, a 117, i 7426, i 7427)).2.2.2 := og70.2.2.2
          have fig70_7453 : ((0 : Int) ≤ (ig70 7453).toInt) ∧ ((ig70 7453).toInt ≤ 40) := hGg70.I.1 7453
          have efig70_7453 : (ig70 7453).toInt = (i 7453).toInt := kg70.ti 7453 rfl
          refine ft_go mi_k142 3 49 [(4, .int vg65), (0, .ref 116), (1, .int x1), (2, .int x2), (3, .int x3)] [.int 40, .int (ig70 7453)] ig70 ag70 qg70 rg70 (by rfl) ?_
          refine ft_if mi_k142 ((ig70 7453) != 40) 95 52 [(4, .int vg65), (0, .ref 116), (1, .int x1), (2, .int x2), (3, .int x3)] [] (by rfl) (fun c => ?_) (fun c => ?_)
          ·
            have c75 : (ig70 7453).toInt ≠ (40 : Int32).toInt := kd_ne c; clear c
            have s76 : (4 * (ig70 7453)).toInt = 4 * (ig70 7453).toInt := kd_cmul 4 korm4 (orm79 fig70_7453.1) (orm80 fig70_7453.2)
            refine ft_go mi_k142 7 106 [(4, .int vg65), (0, .ref 116), (1, .int x1), (2, .int x2), (3, .int x3)] [.int x1, .int (4 * (ig70 7453)), .ref 133] ig70 ag70 qg70 rg70 (by rfl) ?_
            refine ko_iast3 mi_k142.1 (n := 160) (c := 160) (ax := (0, 0, 0, 0, 0)) (mi_k142.2 _ _ (by rfl)) (by rfl) (ksG133 _ _ _ _) (ksA133 _ _ _ _) (hGg70.I.2.1 133) rfl (orm81 fig70_7453.1 s76) (orm82 c75 fig70_7453.2 s76 korm40) ?_
            intro a77 ea77 fa77
            have hJ77 := kG_a3 hGg70 133 rfl ea77 fa77 (kE_cset (orm81 fig70_7453.1 s76) (orm166 fi_7424.2 w62 z2) (by have := korm40; omega))
            have s78 : ((4 * (ig70 7453)) + 1).toInt = (4 * (ig70 7453)).toInt + (1 : Int32).toInt := kd_add (orm84 fig70_7453.1 s76 korm1) (orm85 fig70_7453.2 s76 korm1)
            refine ft_go mi_k142 9 120 [(4, .int vg65), (0, .ref 116), (1, .int x1), (2, .int x2), (3, .int x3)] [.int x2, .int ((4 * (ig70 7453)) + 1), .ref 133] ig70 a77 qg70 rg70 (by rfl) ?_
            refine ko_iast3 mi_k142.1 (n := 160) (c := 160) (ax := (0, 0, 0, 0, 0)) (mi_k142.2 _ _ (by rfl)) (by rfl) (ksG133 _ _ _ _) (ksA133 _ _ _ _) (hJ77.I.2.1 133) rfl (orm86 fig70_7453.1 s76 s78 korm1) (orm87 c75 fig70_7453.2 s76 s78 korm40 korm1) ?_
            intro a79 ea79 fa79
            have hJ79 := kG_a3 hJ77 133 rfl ea79 fa79 (kE_cset (orm86 fig70_7453.1 s76 s78 korm1) (orm167 w62) (orm168 w62))
            have s80 : ((4 * (ig70 7453)) + 2).toInt = (4 * (ig70 7453)).toInt + (2 : Int32).toInt := kd_add (orm90 fig70_7453.1 s76 korm2) (orm91 fig70_7453.2 s76 korm2)
            refine ft_go mi_k142 9 135 [(4, .int vg65), (0, .ref 116), (1, .int x1), (2, .int x2), (3, .int x3)] [.int vg65, .int ((4 * (ig70 7453)) + 2), .ref 133] ig70 a79 qg70 rg70 (by rfl) ?_
            refine ko_iast3 mi_k142.1 (n := 160) (c := 160) (ax := (0, 0, 0, 0, 0)) (mi_k142.2 _ _ (by rfl)) (by rfl) (ksG133 _ _ _ _) (ksA133 _ _ _ _) (hJ79.I.2.1 133) rfl (orm92 fig70_7453.1 s76 s80 korm2) (orm93 c75 fig70_7453.2 s76 s80 korm40 korm2) ?_
            intro a81 ea81 fa81
            have hJ81 := kG_a3 hJ79 133 rfl ea81 fa81 (kE_cset (orm92 fig70_7453.1 s76 s80 korm2) (by have := korm1; have := korm2; have := korm40; omega) (by have := korm1; have := korm2; have := korm40; omega))
            have s82 : ((4 * (ig70 7453)) + 3).toInt = (4 * (ig70 7453)).toInt + (3 : Int32).toInt := kd_add (orm94 fig70_7453.1 s76 korm3) (orm95 fig70_7453.2 s76 korm3)
            refine ft_go mi_k142 9 149 [(4, .int vg65), (0, .ref 116), (1, .int x1), (2, .int x2), (3, .int x3)] [.int x3, .int ((4 * (ig70 7453)) + 3), .ref 133] ig70 a81 qg70 rg70 (by rfl) ?_
            refine ko_iast3 mi_k142.1 (n := 160) (c := 160) (ax := (0, 0, 0, 0, 0)) (mi_k142.2 _ _ (by rfl)) (by rfl) (ksG133 _ _ _ _) (ksA133 _ _ _ _) (hJ81.I.2.1 133) rfl (orm96 fig70_7453.1 s76 s82 korm3) (orm97 c75 fig70_7453.2 s76 s82 korm40 korm3) ?_
            intro a83 ea83 fa83
            have hJ83 := kG_a3 hJ81 133 rfl ea83 fa83 (kE_cset (orm96 fig70_7453.1 s76 s82 korm3) (by have := korm1; have := korm2; have := korm3; have := korm40; omega) (by have := korm1; have := korm2; have := korm3; have := korm40; omega))
            have s84 : ((ig70 7453) + 1).toInt = (ig70 7453).toInt + (1 : Int32).toInt := kd_add (orm98 fig70_7453.1 korm1) (orm99 fig70_7453.2 korm1)
            have hJ85 := kG_i hJ83 7453 rfl (v := ((ig70 7453) + 1)) ⟨(orm100 fig70_7453.1 s84 korm1), (orm101 c75 fig70_7453.2 s76 s84 korm40 korm1)⟩
            have hJ86 := kG_i hJ85 7452 rfl (v := ((ig70 7453) + 1)) ⟨(orm100 fig70_7453.1 s84 korm1), (orm101 c75 fig70_7453.2 s76 s84 korm40 korm1)⟩
            refine ft_go mi_k142 11 170 [(4, .int vg65), (0, .ref 116), (1, .int x1), (2, .int x2), (3, .int x3)] [.int vg65] (ku (ku ig70 7453 ((ig70 7453) + 1)) 7452 ((ig70 7453) + 1)) a83 qg70 rg70 (by rfl) ?_
            have bw87 : (kTold (i 7424) x1 x2 ∧ kFit x2 x3) := ⟨(orm169 w62 z2), (kFit_1 (orm170 w62)).mpr (orm171 z64.1 z64.2)⟩
            have bw88 : ¬ ((rGet x1 x2 (a 118, a 117, i 7426, i 7427)).toInt = x3.toInt) := (orm106 c69 u68)
            have bw89 : ¬ ((i 7453).toInt = 40) := (orm107 c75 efig70_7453 fig70_7453.2 s76 korm40)
            exact ft_ret mi_k142 (by rfl) (hP vg65 _ _ _ _ hJ86 ⟨orm102, ⟨⟨(show vg65 = (rMend (i 7424) x1 x2 x3 (a 118, a 117, i 7426, i 7427) (a 133, i 7452, i 7453)).1 from (by unfold rMend; unfold rAdd; simp only [if_pos bw87, if_neg bw88, if_neg bw89]; (try unfold rPut); first | done | rfl | (simp only [q67, sMn, sMx]; done) | (simp only [q67, sMn, sMx]; rfl))), (show a83 118 = ((rMend (i 7424) x1 x2 x3 (a 118, a 117, i 7426, i 7427) (a 133, i 7452, i 7453)).2.1).1 from (by unfold rMend; unfold rAdd; simp only [if_pos bw87, if_neg bw88, if_neg bw89]; (try unfold rPut); first | done | rfl | (simp only [fa83 118 (by decide), fa81 118 (by decide), fa79 118 (by decide), fa77 118 (by decide), q71, sMn, sMx]; done) | (simp only [fa83 118 (by decide), fa81 118 (by decide), fa79 118 (by decide), fa77 118 (by decide), q71, sMn, sMx]; rfl))), (show a83 117 = ((rMend (i 7424) x1 x2 x3 (a 118, a 117, i 7426, i 7427) (a 133, i 7452, i 7453)).2.1).2.1 from (by unfold rMend; unfold rAdd; simp only [if_pos bw87, if_neg bw88, if_neg bw89]; (try unfold rPut); first | done | rfl | (simp only [fa83 117 (by decide), fa81 117 (by decide), fa79 117 (by decide), fa77 117 (by decide), q72, sMn, sMx]; done) | (simp only [fa83 117 (by decide), fa81 117 (by decide), fa79 117 (by decide), fa77 117 (by decide), q72, sMn, sMx]; rfl))), (show ig70 7426 = ((rMend (i 7424) x1 x2 x3 (a 118, a 117, i 7426, i 7427) (a 133, i 7452, i 7453)).2.1).2.2.1 from (by unfold rMend; unfold rAdd; simp only [if_pos bw87, if_neg bw88, if_neg bw89]; (try unfold rPut); first | done | rfl | (simp only [q73, sMn, sMx]; done) | (simp only [q73, sMn, sMx]; rfl))), (show ig70 7427 = ((rMend (i 7424) x1 x2 x3 (a 118, a 117, i 7426, i 7427) (a 133, i 7452, i 7453)).2.1).2.2.2 from (by unfold rMend; unfold rAdd; simp only [if_pos bw87, if_neg bw88, if_neg bw89]; (try unfold rPut); first | done | rfl | (simp only [q74, sMn, sMx]; done) | (simp only [q74, sMn, sMx]; rfl))), (show a83 133 = ((rMend (i 7424) x1 x2 x3 (a 118, a 117, i 7426, i 7427) (a 133, i 7452, i 7453)).2.2).1 from (by unfold rMend; unfold rAdd; simp only [if_pos bw87, if_neg bw88, if_neg bw89]; (try unfold rPut); first | done | rfl | (simp only [ea83, ea81, (show ig70 7453 = i 7453 from kg70.fi 7453 rfl), ea79, q67, ea77, kg70.fa 133 rfl, sMn, sMx]; done) | (simp only [ea83, ea81, (show ig70 7453 = i 7453 from kg70.fi 7453 rfl), ea79, q67, ea77, kg70.fa 133 rfl, sMn, sMx]; rfl))), (show ((ig70 7453) + 1) = ((rMend (i 7424) x1 x2 x3 (a 118, a 117, i 7426, i 7427) (a 133, i 7452, i 7453)).2.2).2.1 from (by unfold rMend; unfold rAdd; simp only [if_pos bw87, if_neg bw88, if_neg bw89]; (try unfold rPut); first | done | rfl | (simp only [(show ig70 7453 = i 7453 from kg70.fi 7453 rfl), sMn, sMx]; done) | (simp only [(show ig70 7453 = i 7453 from kg70.fi 7453 rfl), sMn, sMx]; rfl))), (show ((ig70 7453) + 1) = ((rMend (i 7424) x1 x2 x3 (a 118, a 117, i 7426, i 7427) (a 133, i 7452, i 7453)).2.2).2.2 from (by unfold rMend; unfold rAdd; simp only [if_pos bw87, if_neg bw88, if_neg bw89]; (try unfold rPut); first | done | rfl | (simp only [(show ig70 7453 = i 7453 from kg70.fi 7453 rfl), sMn, sMx]; done) | (simp only [(show ig70 7453 = i 7453 from kg70.fi 7453 rfl), sMn, sMx]; rfl)))⟩, (kChL_cast (kChL_set4 (kChL_cast hE_chg (kg70.fa 133 rfl)) (hGg70.I.2.1 133) (d := (ig70 7453)) (orm0 fig70_7453.1) (orm113 c75 fig70_7453.2 s76 korm40) (orm108 s76) (orm109 s76 s78 korm1) (orm110 s76 s80 korm2) (orm111 s76 s82 korm3) ea77 ea79 ea81 ea83 (orm172 w62)) rfl)⟩⟩)
          ·
            have c90 : (ig70 7453).toInt = (40 : Int32).toInt := kd_neF c; clear c
            refine ft_go mi_k142 2 55 [(5, .int 0), (4, .int vg65), (0, .ref 116), (1, .int x1), (2, .int x2), (3, .int x3)] [] ig70 ag70 qg70 rg70 (by rfl) ?_
            have lp91 : ∀ (nz : Nat) (i91 : Nat → Int32) (a91 : Nat → List Int32) (q91 : Nat → List Int64) (r91 : Nat → Nat) (l5_91 : Int32), kG yw142_116_L55 ig70 ag70 qg70 rg70 i91 a91 q91 r91 → ((0 : Int) ≤ l5_91.toInt) ∧ (l5_91.toInt ≤ 156) → kShf (ag70 133) (a91 133) l5_91.toInt.toNat → ((156 - l5_91.toInt)).toNat < nz → ko 7 (mi_h142, mi_c142) P (55, [(5, .int l5_91), (4, .int vg65), (0, .ref 116), (1, .int x1), (2, .int x2), (3, .int x3)], [], (0, 0), ks i91 a91 q91 r91) := by
              intro nz
              induction nz with
              | zero =>
                intro _ _ _ _ _ _ _ _ hm
                exact absurd hm (Nat.not_lt_zero _)
              | succ nz ih91 =>
                intro i91 a91 q91 r91 l5_91 hL91 p91_0 O91_0 hm91
                refine ft_go mi_k142 2 60 [(5, .int l5_91), (4, .int vg65), (0, .ref 116), (1, .int x1), (2, .int x2), (3, .int x3)] [.int 156, .int l5_91] i91 a91 q91 r91 (by rfl) ?_
                refine ft_if mi_k142 (decide (156 ≤ l5_91)) 85 63 [(5, .int l5_91), (4, .int vg65), (0, .ref 116), (1, .int x1), (2, .int x2), (3, .int x3)] [] (by rfl) (fun c => ?_) (fun c => ?_)
                ·
                  have c92 : (156 : Int32).toInt ≤ l5_91.toInt := kd_le c; clear c
                  have hG93 := kG_call hGg70 hL91 (by decide +kernel)
                  have qs94 : a91 133 = rShf (ag70 133) := kShf_eq O91_0 (orm114 c92 p91_0.2 korm156) (hGg70.I.2.1 133) (hG93.I.2.1 133)
                  have fi91_7453 : ((0 : Int) ≤ (i91 7453).toInt) ∧ ((i91 7453).toInt ≤ 40) := hG93.I.1 7453
                  have efi91_7453 : (i91 7453).toInt = (ig70 7453).toInt := hL91.ti 7453 rfl
                  have s95 : ((i91 7453) - 1).toInt = (i91 7453).toInt - (1 : Int32).toInt := kd_sub (orm115 c90 efi91_7453 korm40 korm1) (orm116 fi91_7453.2 korm1)
                  have hJ96 := kG_i hG93 7453 rfl (v := ((i91 7453) - 1)) ⟨(orm117 c90 efi91_7453 s95 korm40 korm1), (orm118 fi91_7453.2 s95 korm1)⟩
                  have s97 : (4 * ((i91 7453) - 1)).toInt = 4 * ((i91 7453) - 1).toInt := kd_cmul 4 korm4 (orm119 fi91_7453.1 s95 korm1) (orm120 fi91_7453.2 s95 korm1)
                  refine ft_go mi_k142 13 106 [(5, .int l5_91), (4, .int vg65), (0, .ref 116), (1, .int x1), (2, .int x2), (3, .int x3)] [.int x1, .int (4 * ((i91 7453) - 1)), .ref 133] (ku i91 7453 ((i91 7453) - 1)) a91 q91 r91 (by rfl) ?_
                  refine ko_iast3 mi_k142.1 (n := 160) (c := 160) (ax := (0, 0, 0, 0, 0)) (mi_k142.2 _ _ (by rfl)) (by rfl) (ksG133 _ _ _ _) (ksA133 _ _ _ _) (hJ96.I.2.1 133) rfl (orm121 c90 efi91_7453 s95 s97 korm40 korm1) (orm122 fi91_7453.2 s95 s97 korm1) ?_
                  intro a98 ea98 fa98
                  have hJ98 := kG_a3 hJ96 133 rfl ea98 fa98 (kE_cset (orm121 c90 efi91_7453 s95 s97 korm40 korm1) (orm166 fi_7424.2 w62 z2) (by have := korm1; have := korm40; have := korm156; omega))
                  have s99 : ((4 * ((i91 7453) - 1)) + 1).toInt = (4 * ((i91 7453) - 1)).toInt + (1 : Int32).toInt := kd_add (orm123 c90 efi91_7453 s95 s97 korm40 korm1) (orm124 fi91_7453.2 s95 s97 korm1)
                  refine ft_go mi_k142 9 120 [(5, .int l5_91), (4, .int vg65), (0, .ref 116), (1, .int x1), (2, .int x2), (3, .int x3)] [.int x2, .int ((4 * ((i91 7453) - 1)) + 1), .ref 133] (ku i91 7453 ((i91 7453) - 1)) a98 q91 r91 (by rfl) ?_
                  refine ko_iast3 mi_k142.1 (n := 160) (c := 160) (ax := (0, 0, 0, 0, 0)) (mi_k142.2 _ _ (by rfl)) (by rfl) (ksG133 _ _ _ _) (ksA133 _ _ _ _) (hJ98.I.2.1 133) rfl (orm125 c90 efi91_7453 s95 s97 s99 korm40 korm1) (orm126 fi91_7453.2 s95 s97 s99 korm1) ?_
                  intro a100 ea100 fa100
                  have hJ100 := kG_a3 hJ98 133 rfl ea100 fa100 (kE_cset (orm125 c90 efi91_7453 s95 s97 s99 korm40 korm1) (orm127 c90 efi91_7453 fi91_7453.2 s95 s97 s99 korm40 korm1) (orm168 w62))
                  have s101 : ((4 * ((i91 7453) - 1)) + 2).toInt = (4 * ((i91 7453) - 1)).toInt + (2 : Int32).toInt := kd_add (orm128 c90 efi91_7453 s95 s97 korm40 korm1 korm2) (orm129 fi91_7453.2 s95 s97 korm1 korm2)
                  refine ft_go mi_k142 9 135 [(5, .int l5_91), (4, .int vg65), (0, .ref 116), (1, .int x1), (2, .int x2), (3, .int x3)] [.int vg65, .int ((4 * ((i91 7453) - 1)) + 2), .ref 133] (ku i91 7453 ((i91 7453) - 1)) a100 q91 r91 (by rfl) ?_
                  refine ko_iast3 mi_k142.1 (n := 160) (c := 160) (ax := (0, 0, 0, 0, 0)) (mi_k142.2 _ _ (by rfl)) (by rfl) (ksG133 _ _ _ _) (ksA133 _ _ _ _) (hJ100.I.2.1 133) rfl (orm173 c90 efi91_7453 s101 s95 s97 korm40 korm2 korm1) (orm174 fi91_7453.2 s101 s95 s97 korm2 korm1) ?_
                  intro a102 ea102 fa102
                  have hJ102 := kG_a3 hJ100 133 rfl ea102 fa102 (kE_cset (orm173 c90 efi91_7453 s101 s95 s97 korm40 korm2 korm1) (orm175 c90 efi91_7453 fi91_7453.2 s101 s95 s97 korm40 korm2 korm1) (orm176 c90 efi91_7453 fi91_7453.2 s101 s95 s97 korm40 korm2 korm1))
                  have s103 : ((4 * ((i91 7453) - 1)) + 3).toInt = (4 * ((i91 7453) - 1)).toInt + (3 : Int32).toInt := kd_add (orm134 c90 efi91_7453 s95 s97 korm40 korm1 korm3) (orm135 fi91_7453.2 s95 s97 korm1 korm3)
                  refine ft_go mi_k142 9 149 [(5, .int l5_91), (4, .int vg65), (0, .ref 116), (1, .int x1), (2, .int x2), (3, .int x3)] [.int x3, .int ((4 * ((i91 7453) - 1)) + 3), .ref 133] (ku i91 7453 ((i91 7453) - 1)) a102 q91 r91 (by rfl) ?_
                  refine ko_iast3 mi_k142.1 (n := 160) (c := 160) (ax := (0, 0, 0, 0, 0)) (mi_k142.2 _ _ (by rfl)) (by rfl) (ksG133 _ _ _ _) (ksA133 _ _ _ _) (hJ102.I.2.1 133) rfl (orm177 c90 efi91_7453 s103 s95 s97 korm40 korm3 korm1) (orm178 fi91_7453.2 s103 s95 s97 korm3 korm1) ?_
                  intro a104 ea104 fa104
                  have hJ104 := kG_a3 hJ102 133 rfl ea104 fa104 (kE_cset (orm177 c90 efi91_7453 s103 s95 s97 korm40 korm3 korm1) (orm179 c90 efi91_7453 fi91_7453.2 s103 s95 s97 korm40 korm3 korm1) (orm180 c90 efi91_7453 fi91_7453.2 s103 s95 s97 korm40 korm3 korm1))
                  have s105 : (((i91 7453) - 1) + 1).toInt = ((i91 7453) - 1).toInt + (1 : Int32).toInt := kd_add (orm140 fi91_7453.1 s95 korm1) (orm141 fi91_7453.2 s95 s97 korm1)
                  have hJ106 := kG_i hJ104 7453 rfl (v := (((i91 7453) - 1) + 1)) ⟨(orm181 fi91_7453.1 s105 s95 korm1), (orm182 fi91_7453.2 s105 s95 s97 korm1)⟩
                  have hJ107 := kG_i hJ106 7452 rfl (v := (((i91 7453) - 1) + 1)) ⟨(orm181 fi91_7453.1 s105 s95 korm1), (orm182 fi91_7453.2 s105 s95 s97 korm1)⟩
                  refine ft_go mi_k142 11 170 [(5, .int l5_91), (4, .int vg65), (0, .ref 116), (1, .int x1), (2, .int x2), (3, .int x3)] [.int vg65] (ku (ku (ku i91 7453 ((i91 7453) - 1)) 7453 (((i91 7453) - 1) + 1)) 7452 (((i91 7453) - 1) + 1)) a104 q91 r91 (by rfl) ?_
                  have bw108 : (kTold (i 7424) x1 x2 ∧ kFit x2 x3) := ⟨(orm169 w62 z2), (kFit_1 (orm170 w62)).mpr (orm171 z64.1 z64.2)⟩
                  have bw109 : ¬ ((rGet x1 x2 (a 118, a 117, i 7426, i 7427)).toInt = x3.toInt) := (orm106 c69 u68)
                  have bw110 : (i 7453).toInt = 40 := (orm144 c90 efig70_7453 fi_7453.2 korm40)
                  exact ft_ret mi_k142 (by rfl) (hP vg65 _ _ _ _ hJ107 ⟨orm102, ⟨⟨(show vg65 = (rMend (i 7424) x1 x2 x3 (a 118, a 117, i 7426, i 7427) (a 133, i 7452, i 7453)).1 from (by unfold rMend; unfold rAdd; simp only [if_pos bw108, if_neg bw109, if_pos bw110]; (try unfold rPut); first | done | rfl | (simp only [q67, sMn, sMx]; done) | (simp only [q67, sMn, sMx]; rfl))), (show a104 118 = ((rMend (i 7424) x1 x2 x3 (a 118, a 117, i 7426, i 7427) (a 133, i 7452, i 7453)).2.1).1 from (by unfold rMend; unfold rAdd; simp only [if_pos bw108, if_neg bw109, if_pos bw110]; (try unfold rPut); first | done | rfl | (simp only [fa104 118 (by decide), fa102 118 (by decide), fa100 118 (by decide), fa98 118 (by decide), hL91.fa 118 rfl, q71, sMn, sMx]; done) | (simp only [fa104 118 (by decide), fa102 118 (by decide), fa100 118 (by decide), fa98 118 (by decide), hL91.fa 118 rfl, q71, sMn, sMx]; rfl))), (show a104 117 = ((rMend (i 7424) x1 x2 x3 (a 118, a 117, i 7426, i 7427) (a 133, i 7452, i 7453)).2.1).2.1 from (by unfold rMend; unfold rAdd; simp only [if_pos bw108, if_neg bw109, if_pos bw110]; (try unfold rPut); first | done | rfl | (simp only [fa104 117 (by decide), fa102 117 (by decide), fa100 117 (by decide), fa98 117 (by decide), hL91.fa 117 rfl, q72, sMn, sMx]; done) | (simp only [fa104 117 (by decide), fa102 117 (by decide), fa100 117 (by decide), fa98 117 (by decide), hL91.fa 117 rfl, q72, sMn, sMx]; rfl))), (show i91 7426 = ((rMend (i 7424) x1 x2 x3 (a 118, a 117, i 7426, i 7427) (a 133, i 7452, i 7453)).2.1).2.2.1 from (by unfold rMend; unfold rAdd; simp only [if_pos bw108, if_neg bw109, if_pos bw110]; (try unfold rPut); first | done | rfl | (simp only [(show i91 7426 = ig70 7426 from hL91.fi 7426 rfl), q73, sMn, sMx]; done) | (simp only [(show i91 7426 = ig70 7426 from hL91.fi 7426 rfl), q73, sMn, sMx]; rfl))), (show i91 7427 = ((rMend (i 7424) x1 x2 x3 (a 118, a 117, i 7426, i 7427) (a 133, i 7452, i 7453)).2.1).2.2.2 from (by unfold rMend; unfold rAdd; simp only [if_pos bw108, if_neg bw109, if_pos bw110]; (try unfold rPut); first | done | rfl | (simp only [(show i91 7427 = ig70 7427 from hL91.fi 7427 rfl), q74, sMn, sMx]; done) | (simp only [(show i91 7427 = ig70 7427 from hL91.fi 7427 rfl), q74, sMn, sMx]; rfl))), (show a104 133 = ((rMend (i 7424) x1 x2 x3 (a 118, a 117, i 7426, i 7427) (a 133, i 7452, i 7453)).2.2).1 from (by unfold rMend; unfold rAdd; simp only [if_pos bw108, if_neg bw109, if_pos bw110]; (try unfold rPut); first | done | rfl | (simp only [ea104, ea102, (show i91 7453 = ig70 7453 from hL91.fi 7453 rfl), (show ig70 7453 = i 7453 from kg70.fi 7453 rfl), ea100, q67, ea98, qs94, kg70.fa 133 rfl, sMn, sMx]; done) | (simp only [ea104, ea102, (show i91 7453 = ig70 7453 from hL91.fi 7453 rfl), (show ig70 7453 = i 7453 from kg70.fi 7453 rfl), ea100, q67, ea98, qs94, kg70.fa 133 rfl, sMn, sMx]; rfl))), (show (((i91 7453) - 1) + 1) = ((rMend (i 7424) x1 x2 x3 (a 118, a 117, i 7426, i 7427) (a 133, i 7452, i 7453)).2.2).2.1 from (by unfold rMend; unfold rAdd; simp only [if_pos bw108, if_neg bw109, if_pos bw110]; (try unfold rPut); first | done | rfl | (simp only [(show i91 7453 = ig70 7453 from hL91.fi 7453 rfl), (show ig70 7453 = i 7453 from kg70.fi 7453 rfl), sMn, sMx]; done) | (simp only [(show i91 7453 = ig70 7453 from hL91.fi 7453 rfl), (show ig70 7453 = i 7453 from kg70.fi 7453 rfl), sMn, sMx]; rfl))), (show (((i91 7453) - 1) + 1) = ((rMend (i 7424) x1 x2 x3 (a 118, a 117, i 7426, i 7427) (a 133, i 7452, i 7453)).2.2).2.2 from (by unfold rMend; unfold rAdd; simp only [if_pos bw108, if_neg bw109, if_pos bw110]; (try unfold rPut); first | done | rfl | (simp only [(show i91 7453 = ig70 7453 from hL91.fi 7453 rfl), (show ig70 7453 = i 7453 from kg70.fi 7453 rfl), sMn, sMx]; done) | (simp only [(show i91 7453 = ig70 7453 from hL91.fi 7453 rfl), (show ig70 7453 = i 7453 from kg70.fi 7453 rfl), sMn, sMx]; rfl)))⟩, (kChL_cast (kChL_set4 (kChL_cast (kShf_end O91_0 (orm114 c92 p91_0.2 korm156) (hL91.I.2.1 133) (kChL_cast hE_chg (kg70.fa 133 rfl))) rfl) (hJ96.I.2.1 133) (d := ((i91 7453) - 1)) (orm117 c90 efi91_7453 s95 korm40 korm1) (orm145 fi91_7453.2 s95 s97 korm1) (orm108 s97) (orm109 s97 s99 korm1) (orm183 s101 s97 korm2) (orm184 s103 s97 korm3) ea98 ea100 ea102 ea104 (orm172 w62)) rfl)⟩⟩)
                ·
                  have c111 : l5_91.toInt < (156 : Int32).toInt := kd_leF c; clear c
                  have s112 : (l5_91 + 4).toInt = l5_91.toInt + (4 : Int32).toInt := kd_add (orm146 p91_0.1 korm4) (orm147 p91_0.2 korm4)
                  refine ft_go mi_k142 8 77 [(5, .int l5_91), (4, .int vg65), (0, .ref 116), (1, .int x1), (2, .int x2), (3, .int x3)] [.int (l5_91 + 4), .ref 133, .int l5_91, .ref 133] i91 a91 q91 r91 (by rfl) ?_
                  refine ko_iald3 mi_k142.1 (n := 160) (c := 160) (ax := (0, 0, 0, 0, 0)) (mi_k142.2 _ _ (by rfl)) (by rfl) (ksG133 _ _ _ _) (hL91.I.2.1 133) rfl (orm148 p91_0.1 s112 korm4) (orm149 c111 s112 korm156 korm4) ?_
                  have r113 : ((((l5_91 + 4).toInt % 4) = 0 → (0 : Int) ≤ ((a91 133).getD (l5_91 + 4).toNatClampNeg 0).toInt ∧ ((a91 133).getD (l5_91 + 4).toNatClampNeg 0).toInt ≤ 7)) ∧ ((((l5_91 + 4).toInt % 4) = 1 → (0 : Int) ≤ ((a91 133).getD (l5_91 + 4).toNatClampNeg 0).toInt ∧ ((a91 133).getD (l5_91 + 4).toNatClampNeg 0).toInt ≤ 6)) := kE_ccond hL91.I (j := (l5_91 + 4)) (orm148 p91_0.1 s112 korm4)
                  refine ko_iast3 mi_k142.1 (n := 160) (c := 160) (ax := (0, 0, 0, 0, 0)) (mi_k142.2 _ _ (by rfl)) (by rfl) (ksG133 _ _ _ _) (ksA133 _ _ _ _) (hL91.I.2.1 133) rfl (orm0 p91_0.1) (orm150 p91_0.2) ?_
                  intro a114 ea114 fa114
                  have hJ114 := kG_a3 hL91 133 rfl ea114 fa114 (kE_cset (orm0 p91_0.1) (by have := korm4; have := korm40; have := korm156; omega) (by have := korm4; have := korm40; have := korm156; omega))
                  have s115 : (l5_91 + 1).toInt = l5_91.toInt + (1 : Int32).toInt := kd_add (orm98 p91_0.1 korm1) (orm151 p91_0.2 korm1)
                  refine ft_go mi_k142 2 55 [(5, .int (l5_91 + 1)), (4, .int vg65), (0, .ref 116), (1, .int x1), (2, .int x2), (3, .int x3)] [] i91 a114 q91 r91 (by rfl) ?_
                  exact ih91 _ _ _ _ _ hJ114 (orm152 c111 p91_0.1 s115 korm156 korm1) (kShf_step O91_0 (hL91.I.2.1 133) (orm0 p91_0.1) (orm153 c111 korm156) (orm154 s112 korm4) (orm155 s115 korm1) ea114 rfl) (kj_meas (orm156 s115 korm1) (orm157 c111 korm156) hm91)
            exact lp91 _ _ _ _ _ _ (kG_self _ hGg70.I hGg70.R) (orm158 korm0) (kShf_start rfl kn0) (Nat.lt_succ_self _)
        ·
          have c116 : vg65.toInt = x3.toInt := kd_neF c; clear c
          refine ft_go mi_k142 1 35 [(4, .int vg65), (0, .ref 116), (1, .int x1), (2, .int x2), (3, .int x3)] [.int vg65] i a q r (by rfl) ?_
          have bw117 : (kTold (i 7424) x1 x2 ∧ kFit x2 x3) := ⟨(orm169 w62 z2), (kFit_1 (orm170 w62)).mpr (orm171 z64.1 z64.2)⟩
          have bw118 : (rGet x1 x2 (a 118, a 117, i 7426, i 7427)).toInt = x3.toInt := (orm160 c116 u68)
          exact ft_ret mi_k142 (by rfl) (hP vg65 _ _ _ _ hG ⟨(orm159 hp0), ⟨⟨(show vg65 = (rMend (i 7424) x1 x2 x3 (a 118, a 117, i 7426, i 7427) (a 133, i 7452, i 7453)).1 from (by unfold rMend; simp only [if_pos bw117, if_pos bw118]; first | done | rfl | (simp only [q67, sMn, sMx]; done) | (simp only [q67, sMn, sMx]; rfl))), (show a 118 = ((rMend (i 7424) x1 x2 x3 (a 118, a 117, i 7426, i 7427) (a 133, i 7452, i 7453)).2.1).1 from (by unfold rMend; simp only [if_pos bw117, if_pos bw118]; first | done | rfl | (simp only [sMn, sMx]; done) | (simp only [sMn, sMx]; rfl))), (show a 117 = ((rMend (i 7424) x1 x2 x3 (a 118, a 117, i 7426, i 7427) (a 133, i 7452, i 7453)).2.1).2.1 from (by unfold rMend; simp only [if_pos bw117, if_pos bw118]; first | done | rfl | (simp only [sMn, sMx]; done) | (simp only [sMn, sMx]; rfl))), (show i 7426 = ((rMend (i 7424) x1 x2 x3 (a 118, a 117, i 7426, i 7427) (a 133, i 7452, i 7453)).2.1).2.2.1 from (by unfold rMend; simp only [if_pos bw117, if_pos bw118]; first | done | rfl | (simp only [sMn, sMx]; done) | (simp only [sMn, sMx]; rfl))), (show i 7427 = ((rMend (i 7424) x1 x2 x3 (a 118, a 117, i 7426, i 7427) (a 133, i 7452, i 7453)).2.1).2.2.2 from (by unfold rMend; simp only [if_pos bw117, if_pos bw118]; first | done | rfl | (simp only [sMn, sMx]; done) | (simp only [sMn, sMx]; rfl))), (show a 133 = ((rMend (i 7424) x1 x2 x3 (a 118, a 117, i 7426, i 7427) (a 133, i 7452, i 7453)).2.2).1 from (by unfold rMend; simp only [if_pos bw117, if_pos bw118]; first | done | rfl | (simp only [sMn, sMx]; done) | (simp only [sMn, sMx]; rfl))), (show i 7452 = ((rMend (i 7424) x1 x2 x3 (a 118, a 117, i 7426, i 7427) (a 133, i 7452, i 7453)).2.2).2.1 from (by unfold rMend; simp only [if_pos bw117, if_pos bw118]; first | done | rfl | (simp only [sMn, sMx]; done) | (simp only [sMn, sMx]; rfl))), (show i 7453 = ((rMend (i 7424) x1 x2 x3 (a 118, a 117, i 7426, i 7427) (a 133, i 7452, i 7453)).2.2).2.2 from (by unfold rMend; simp only [if_pos bw117, if_pos bw118]; first | done | rfl | (simp only [sMn, sMx]; done) | (simp only [sMn, sMx]; rfl)))⟩, (kChL_cast hE_chg rfl)⟩⟩)
      ·
        subst eg63
        have z119 : ¬ (((0 : Int) ≤ x3.toInt) ∧ (x3.toInt ≤ 9)) := hg63
        refine ft_go mi_k142 2 18 [(0, .ref 116), (1, .int x1), (2, .int x2), (3, .int x3)] [.int (-1)] i a q r (by rfl) ?_
        have bw120 : ¬ (kTold (i 7424) x1 x2 ∧ kFit x2 x3) := (fun z => absurd ((kFit_1 (orm170 w62)).mp z.2) (orm185 z119))
        exact ft_ret mi_k142 (by rfl) (hP (-1) _ _ _ _ hG ⟨(orm159 hp0), ⟨⟨(show ((-1) : Int32) = (rMend (i 7424) x1 x2 x3 (a 118, a 117, i 7426, i 7427) (a 133, i 7452, i 7453)).1 from (by unfold rMend; simp only [if_neg bw120]; first | done | rfl | (simp only [sMn, sMx]; done) | (simp only [sMn, sMx]; rfl))), (show a 118 = ((rMend (i 7424) x1 x2 x3 (a 118, a 117, i 7426, i 7427) (a 133, i 7452, i 7453)).2.1).1 from (by unfold rMend; simp only [if_neg bw120]; first | done | rfl | (simp only [sMn, sMx]; done) | (simp only [sMn, sMx]; rfl))), (show a 117 = ((rMend (i 7424) x1 x2 x3 (a 118, a 117, i 7426, i 7427) (a 133, i 7452, i 7453)).2.1).2.1 from (by unfold rMend; simp only [if_neg bw120]; first | done | rfl | (simp only [sMn, sMx]; done) | (simp only [sMn, sMx]; rfl))), (show i 7426 = ((rMend (i 7424) x1 x2 x3 (a 118, a 117, i 7426, i 7427) (a 133, i 7452, i 7453)).2.1).2.2.1 from (by unfold rMend; simp only [if_neg bw120]; first | done | rfl | (simp only [sMn, sMx]; done) | (simp only [sMn, sMx]; rfl))), (show i 7427 = ((rMend (i 7424) x1 x2 x3 (a 118, a 117, i 7426, i 7427) (a 133, i 7452, i 7453)).2.1).2.2.2 from (by unfold rMend; simp only [if_neg bw120]; first | done | rfl | (simp only [sMn, sMx]; done) | (simp only [sMn, sMx]; rfl))), (show a 133 = ((rMend (i 7424) x1 x2 x3 (a 118, a 117, i 7426, i 7427) (a 133, i 7452, i 7453)).2.2).1 from (by unfold rMend; simp only [if_neg bw120]; first | done | rfl | (simp only [sMn, sMx]; done) | (simp only [sMn, sMx]; rfl))), (show i 7452 = ((rMend (i 7424) x1 x2 x3 (a 118, a 117, i 7426, i 7427) (a 133, i 7452, i 7453)).2.2).2.1 from (by unfold rMend; simp only [if_neg bw120]; first | done | rfl | (simp only [sMn, sMx]; done) | (simp only [sMn, sMx]; rfl))), (show i 7453 = ((rMend (i 7424) x1 x2 x3 (a 118, a 117, i 7426, i 7427) (a 133, i 7452, i 7453)).2.2).2.2 from (by unfold rMend; simp only [if_neg bw120]; first | done | rfl | (simp only [sMn, sMx]; done) | (simp only [sMn, sMx]; rfl)))⟩, (kChL_cast hE_chg rfl)⟩⟩)
    by_cases w121 : x2.toInt = 2
    ·
      refine ko_eq (x1 := (11, [(0, .ref 116), (1, .int x1), (2, .int x2), (3, .int x3)], [.int x3, .int 2], (0, 0), ks i a q r)) (by rw [(kj_eq w121 (by decide) : x2 = 2)]) ?_
      refine ko_callPI mi_k142.1 (pc := 11) (ls := [(0, .ref 116), (1, .int x1), (2, .int x2), (3, .int x3)]) (st := [.int x3, .int 2]) (h := ks i a q r) (i := (.invokestatic 144, 3, 139, 0, 9, 0, 388)) (mi_k142.2 _ _ (by rfl)) (ft_invS mi_pq139 (by rfl)) (cy := mi_c139) mi_pq139 rfl (ke139_l02 hG.I hG.R x3) (by decide) ?_
      intro vg122 hg122
      rcases hg122 with ⟨eg122, hg122⟩ | ⟨eg122, hg122⟩
      ·
        subst eg122
        have z123 : ((0 : Int) ≤ x3.toInt) ∧ (x3.toInt ≤ 9) := hg122
        refine ft_go mi_k142 4 22 [(0, .ref 116), (1, .int x1), (2, .int x2), (3, .int x3)] [.int x2, .int x1, .ref 116] i a q r (by rfl) ?_
        refine ko_callPI mi_k142.1 (pc := 22) (ls := [(0, .ref 116), (1, .int x1), (2, .int x2), (3, .int x3)]) (st := [.int x2, .int x1, .ref 116]) (h := ks i a q r) (i := (.invokevirtual 147, 3, 140, 0, 9, 0, 389)) (mi_k142.2 _ _ (by rfl)) (ft_invS mi_pq140 (by rfl)) (cy := mi_c140) mi_pq140 rfl (ke140_116 hG.I hG.R x1 x2 (orm186 fi_7424.2 w121 z2) (orm187 w121)) (by decide) ?_
        intro vg124 hg124
        obtain ⟨hg124, og124⟩ := hg124
        have z125 : ((x2.toInt = 4) → (((1 : Int) ≤ vg124.toInt) ∧ (vg124.toInt ≤ 5))) := hg124
        have q126 : vg124 = rGet x1 x2 (a 118, a 117, i 7426, i 7427) := og124
        have u127 : vg124.toInt = (rGet x1 x2 (a 118, a 117, i 7426, i 7427)).toInt := congrArg Int32.toInt q126
        refine ft_go mi_k142 3 30 [(4, .int vg124), (0, .ref 116), (1, .int x1), (2, .int x2), (3, .int x3)] [.int x3, .int vg124] i a q r (by rfl) ?_
        refine ft_if mi_k142 (vg124 != x3) 36 33 [(4, .int vg124), (0, .ref 116), (1, .int x1), (2, .int x2), (3, .int x3)] [] (by rfl) (fun c => ?_) (fun c => ?_)
        ·
          have c128 : vg124.toInt ≠ x3.toInt := kd_ne c; clear c
          refine ft_go mi_k142 4 40 [(4, .int vg124), (0, .ref 116), (1, .int x1), (2, .int x2), (3, .int x3)] [.int x3, .int x2, .int x1, .ref 116] i a q r (by rfl) ?_
          refine ko_callN mi_k142.1 (pc := 40) (ls := [(4, .int vg124), (0, .ref 116), (1, .int x1), (2, .int x2), (3, .int x3)]) (st := [.int x3, .int x2, .int x1, .ref 116]) (h := ks i a q r) (i := (.invokevirtual 150, 3, 141, 0, 9, 0, 390)) (mi_k142.2 _ _ (by rfl)) (ft_invS mi_pq141 (by rfl)) (cy := mi_c141) mi_pq141 rfl (ke141_116 hG.I hG.R x1 x2 x3 (orm186 fi_7424.2 w121 z2) (orm187 w121) (orm22 w121)) (by decide) ?_
          intro ig129 ag129 qg129 rg129 kg129 hg129
          have hGg129 := kG_call hG kg129 (by decide +kernel)
          obtain ⟨hg129, og129⟩ := hg129
          have q130 : ag129 118 = (rSet x1 x2 x3 (a 118, a 117, i 7426, i 7427)).1 := og129.1
          have q131 : ag129 117 = (rSet x1 x2 x3 (a 118, a 117, i 7426, i 7427)).2.1 := og129.2.1
          have q132 : ig129 7426 = (rSet x1 x2 x3 (a 118, a 117, i 7426, i 7427)).2.2.1 := og129.2.2.1
          have q133 : ig129 7427 = (rSet x1 x2 x3 (a 118, a 117, i 7426, i 7427)).2.2.2 := og129.2.2.2
          have fig129_7453 : ((0 : Int) ≤ (ig129 7453).toInt) ∧ ((ig129 7453).toInt ≤ 40) := hGg129.I.1 7453
          have efig129_7453 : (ig129 7453).toInt = (i 7453).toInt := kg129.ti 7453 rfl
          refine ft_go mi_k142 3 49 [(4, .int vg124), (0, .ref 116), (1, .int x1), (2, .int x2), (3, .int x3)] [.int 40, .int (ig129 7453)] ig129 ag129 qg129 rg129 (by rfl) ?_
          refine ft_if mi_k142 ((ig129 7453) != 40) 95 52 [(4, .int vg124), (0, .ref 116), (1, .int x1), (2, .int x2), (3, .int x3)] [] (by rfl) (fun c => ?_) (fun c => ?_)
          ·
            have c134 : (ig129 7453).toInt ≠ (40 : Int32).toInt := kd_ne c; clear c
            have s135 : (4 * (ig129 7453)).toInt = 4 * (ig129 7453).toInt := kd_cmul 4 korm4 (orm79 fig129_7453.1) (orm80 fig129_7453.2)
            refine ft_go mi_k142 7 106 [(4, .int vg124), (0, .ref 116), (1, .int x1), (2, .int x2), (3, .int x3)] [.int x1, .int (4 * (ig129 7453)), .ref 133] ig129 ag129 qg129 rg129 (by rfl) ?_
            refine ko_iast3 mi_k142.1 (n := 160) (c := 160) (ax := (0, 0, 0, 0, 0)) (mi_k142.2 _ _ (by rfl)) (by rfl) (ksG133 _ _ _ _) (ksA133 _ _ _ _) (hGg129.I.2.1 133) rfl (orm81 fig129_7453.1 s135) (orm82 c134 fig129_7453.2 s135 korm40) ?_
            intro a136 ea136 fa136
            have hJ136 := kG_a3 hGg129 133 rfl ea136 fa136 (kE_cset (orm81 fig129_7453.1 s135) (orm188 fi_7424.2 w121 z2) (by have := korm40; omega))
            have s137 : ((4 * (ig129 7453)) + 1).toInt = (4 * (ig129 7453)).toInt + (1 : Int32).toInt := kd_add (orm84 fig129_7453.1 s135 korm1) (orm85 fig129_7453.2 s135 korm1)
            refine ft_go mi_k142 9 120 [(4, .int vg124), (0, .ref 116), (1, .int x1), (2, .int x2), (3, .int x3)] [.int x2, .int ((4 * (ig129 7453)) + 1), .ref 133] ig129 a136 qg129 rg129 (by rfl) ?_
            refine ko_iast3 mi_k142.1 (n := 160) (c := 160) (ax := (0, 0, 0, 0, 0)) (mi_k142.2 _ _ (by rfl)) (by rfl) (ksG133 _ _ _ _) (ksA133 _ _ _ _) (hJ136.I.2.1 133) rfl (orm86 fig129_7453.1 s135 s137 korm1) (orm87 c134 fig129_7453.2 s135 s137 korm40 korm1) ?_
            intro a138 ea138 fa138
            have hJ138 := kG_a3 hJ136 133 rfl ea138 fa138 (kE_cset (orm86 fig129_7453.1 s135 s137 korm1) (orm189 w121) (orm190 w121))
            have s139 : ((4 * (ig129 7453)) + 2).toInt = (4 * (ig129 7453)).toInt + (2 : Int32).toInt := kd_add (orm90 fig129_7453.1 s135 korm2) (orm91 fig129_7453.2 s135 korm2)
            refine ft_go mi_k142 9 135 [(4, .int vg124), (0, .ref 116), (1, .int x1), (2, .int x2), (3, .int x3)] [.int vg124, .int ((4 * (ig129 7453)) + 2), .ref 133] ig129 a138 qg129 rg129 (by rfl) ?_
            refine ko_iast3 mi_k142.1 (n := 160) (c := 160) (ax := (0, 0, 0, 0, 0)) (mi_k142.2 _ _ (by rfl)) (by rfl) (ksG133 _ _ _ _) (ksA133 _ _ _ _) (hJ138.I.2.1 133) rfl (orm92 fig129_7453.1 s135 s139 korm2) (orm93 c134 fig129_7453.2 s135 s139 korm40 korm2) ?_
            intro a140 ea140 fa140
            have hJ140 := kG_a3 hJ138 133 rfl ea140 fa140 (kE_cset (orm92 fig129_7453.1 s135 s139 korm2) (by have := korm1; have := korm2; have := korm40; omega) (by have := korm1; have := korm2; have := korm40; omega))
            have s141 : ((4 * (ig129 7453)) + 3).toInt = (4 * (ig129 7453)).toInt + (3 : Int32).toInt := kd_add (orm94 fig129_7453.1 s135 korm3) (orm95 fig129_7453.2 s135 korm3)
            refine ft_go mi_k142 9 149 [(4, .int vg124), (0, .ref 116), (1, .int x1), (2, .int x2), (3, .int x3)] [.int x3, .int ((4 * (ig129 7453)) + 3), .ref 133] ig129 a140 qg129 rg129 (by rfl) ?_
            refine ko_iast3 mi_k142.1 (n := 160) (c := 160) (ax := (0, 0, 0, 0, 0)) (mi_k142.2 _ _ (by rfl)) (by rfl) (ksG133 _ _ _ _) (ksA133 _ _ _ _) (hJ140.I.2.1 133) rfl (orm96 fig129_7453.1 s135 s141 korm3) (orm97 c134 fig129_7453.2 s135 s141 korm40 korm3) ?_
            intro a142 ea142 fa142
            have hJ142 := kG_a3 hJ140 133 rfl ea142 fa142 (kE_cset (orm96 fig129_7453.1 s135 s141 korm3) (by have := korm1; have := korm2; have := korm3; have := korm40; omega) (by have := korm1; have := korm2; have := korm3; have := korm40; omega))
            have s143 : ((ig129 7453) + 1).toInt = (ig129 7453).toInt + (1 : Int32).toInt := kd_add (orm98 fig129_7453.1 korm1) (orm99 fig129_7453.2 korm1)
            have hJ144 := kG_i hJ142 7453 rfl (v := ((ig129 7453) + 1)) ⟨(orm100 fig129_7453.1 s143 korm1), (orm101 c134 fig129_7453.2 s135 s143 korm40 korm1)⟩
            have hJ145 := kG_i hJ144 7452 rfl (v := ((ig129 7453) + 1)) ⟨(orm100 fig129_7453.1 s143 korm1), (orm101 c134 fig129_7453.2 s135 s143 korm40 korm1)⟩
            refine ft_go mi_k142 11 170 [(4, .int vg124), (0, .ref 116), (1, .int x1), (2, .int x2), (3, .int x3)] [.int vg124] (ku (ku ig129 7453 ((ig129 7453) + 1)) 7452 ((ig129 7453) + 1)) a142 qg129 rg129 (by rfl) ?_
            have bw146 : (kTold (i 7424) x1 x2 ∧ kFit x2 x3) := ⟨(orm191 w121 z2), (kFit_2 (orm192 w121)).mpr (orm171 z123.1 z123.2)⟩
            have bw147 : ¬ ((rGet x1 x2 (a 118, a 117, i 7426, i 7427)).toInt = x3.toInt) := (orm106 c128 u127)
            have bw148 : ¬ ((i 7453).toInt = 40) := (orm107 c134 efig129_7453 fig129_7453.2 s135 korm40)
            exact ft_ret mi_k142 (by rfl) (hP vg124 _ _ _ _ hJ145 ⟨orm102, ⟨⟨(show vg124 = (rMend (i 7424) x1 x2 x3 (a 118, a 117, i 7426, i 7427) (a 133, i 7452, i 7453)).1 from (by unfold rMend; unfold rAdd; simp only [if_pos bw146, if_neg bw147, if_neg bw148]; (try unfold rPut); first | done | rfl | (simp only [q126, sMn, sMx]; done) | (simp only [q126, sMn, sMx]; rfl))), (show a142 118 = ((rMend (i 7424) x1 x2 x3 (a 118, a 117, i 7426, i 7427) (a 133, i 7452, i 7453)).2.1).1 from (by unfold rMend; unfold rAdd; simp only [if_pos bw146, if_neg bw147, if_neg bw148]; (try unfold rPut); first | done | rfl | (simp only [fa142 118 (by decide), fa140 118 (by decide), fa138 118 (by decide), fa136 118 (by decide), q130, sMn, sMx]; done) | (simp only [fa142 118 (by decide), fa140 118 (by decide), fa138 118 (by decide), fa136 118 (by decide), q130, sMn, sMx]; rfl))), (show a142 117 = ((rMend (i 7424) x1 x2 x3 (a 118, a 117, i 7426, i 7427) (a 133, i 7452, i 7453)).2.1).2.1 from (by unfold rMend; unfold rAdd; simp only [if_pos bw146, if_neg bw147, if_neg bw148]; (try unfold rPut); first | done | rfl | (simp only [fa142 117 (by decide), fa140 117 (by decide), fa138 117 (by decide), fa136 117 (by decide), q131, sMn, sMx]; done) | (simp only [fa142 117 (by decide), fa140 117 (by decide), fa138 117 (by decide), fa136 117 (by decide), q131, sMn, sMx]; rfl))), (show ig129 7426 = ((rMend (i 7424) x1 x2 x3 (a 118, a 117, i 7426, i 7427) (a 133, i 7452, i 7453)).2.1).2.2.1 from (by unfold rMend; unfold rAdd; simp only [if_pos bw146, if_neg bw147, if_neg bw148]; (try unfold rPut); first | done | rfl | (simp only [q132, sMn, sMx]; done) | (simp only [q132, sMn, sMx]; rfl))), (show ig129 7427 = ((rMend (i 7424) x1 x2 x3 (a 118, a 117, i 7426, i 7427) (a 133, i 7452, i 7453)).2.1).2.2.2 from (by unfold rMend; unfold rAdd; simp only [if_pos bw146, if_neg bw147, if_neg bw148]; (try unfold rPut); first | done | rfl | (simp only [q133, sMn, sMx]; done) | (simp only [q133, sMn, sMx]; rfl))), (show a142 133 = ((rMend (i 7424) x1 x2 x3 (a 118, a 117, i 7426, i 7427) (a 133, i 7452, i 7453)).2.2).1 from (by unfold rMend; unfold rAdd; simp only [if_pos bw146, if_neg bw147, if_neg bw148]; (try unfold rPut); first | done | rfl | (simp only [ea142, ea140, (show ig129 7453 = i 7453 from kg129.fi 7453 rfl), ea138, q126, ea136, kg129.fa 133 rfl, sMn, sMx]; done) | (simp only [ea142, ea140, (show ig129 7453 = i 7453 from kg129.fi 7453 rfl), ea138, q126, ea136, kg129.fa 133 rfl, sMn, sMx]; rfl))), (show ((ig129 7453) + 1) = ((rMend (i 7424) x1 x2 x3 (a 118, a 117, i 7426, i 7427) (a 133, i 7452, i 7453)).2.2).2.1 from (by unfold rMend; unfold rAdd; simp only [if_pos bw146, if_neg bw147, if_neg bw148]; (try unfold rPut); first | done | rfl | (simp only [(show ig129 7453 = i 7453 from kg129.fi 7453 rfl), sMn, sMx]; done) | (simp only [(show ig129 7453 = i 7453 from kg129.fi 7453 rfl), sMn, sMx]; rfl))), (show ((ig129 7453) + 1) = ((rMend (i 7424) x1 x2 x3 (a 118, a 117, i 7426, i 7427) (a 133, i 7452, i 7453)).2.2).2.2 from (by unfold rMend; unfold rAdd; simp only [if_pos bw146, if_neg bw147, if_neg bw148]; (try unfold rPut); first | done | rfl | (simp only [(show ig129 7453 = i 7453 from kg129.fi 7453 rfl), sMn, sMx]; done) | (simp only [(show ig129 7453 = i 7453 from kg129.fi 7453 rfl), sMn, sMx]; rfl)))⟩, (kChL_cast (kChL_set4 (kChL_cast hE_chg (kg129.fa 133 rfl)) (hGg129.I.2.1 133) (d := (ig129 7453)) (orm0 fig129_7453.1) (orm113 c134 fig129_7453.2 s135 korm40) (orm108 s135) (orm109 s135 s137 korm1) (orm110 s135 s139 korm2) (orm111 s135 s141 korm3) ea136 ea138 ea140 ea142 (orm193 w121)) rfl)⟩⟩)
          ·
            have c149 : (ig129 7453).toInt = (40 : Int32).toInt := kd_neF c; clear c
            refine ft_go mi_k142 2 55 [(5, .int 0), (4, .int vg124), (0, .ref 116), (1, .int x1), (2, .int x2), (3, .int x3)] [] ig129 ag129 qg129 rg129 (by rfl) ?_
            have lp150 : ∀ (nz : Nat) (i150 : Nat → Int32) (a150 : Nat → List Int32) (q150 : Nat → List Int64) (r150 : Nat → Nat) (l5_150 : Int32), kG yw142_116_L55 ig129 ag129 qg129 rg129 i150 a150 q150 r150 → ((0 : Int) ≤ l5_150.toInt) ∧ (l5_150.toInt ≤ 156) → kShf (ag129 133) (a150 133) l5_150.toInt.toNat → ((156 - l5_150.toInt)).toNat < nz → ko 7 (mi_h142, mi_c142) P (55, [(5, .int l5_150), (4, .int vg124), (0, .ref 116), (1, .int x1), (2, .int x2), (3, .int x3)], [], (0, 0), ks i150 a150 q150 r150) := by
              intro nz
              induction nz with
              | zero =>
                intro _ _ _ _ _ _ _ _ hm
                exact absurd hm (Nat.not_lt_zero _)
              | succ nz ih150 =>
                intro i150 a150 q150 r150 l5_150 hL150 p150_0 O150_0 hm150
                refine ft_go mi_k142 2 60 [(5, .int l5_150), (4, .int vg124), (0, .ref 116), (1, .int x1), (2, .int x2), (3, .int x3)] [.int 156, .int l5_150] i150 a150 q150 r150 (by rfl) ?_
                refine ft_if mi_k142 (decide (156 ≤ l5_150)) 85 63 [(5, .int l5_150), (4, .int vg124), (0, .ref 116), (1, .int x1), (2, .int x2), (3, .int x3)] [] (by rfl) (fun c => ?_) (fun c => ?_)
                ·
                  have c151 : (156 : Int32).toInt ≤ l5_150.toInt := kd_le c; clear c
                  have hG152 := kG_call hGg129 hL150 (by decide +kernel)
                  have qs153 : a150 133 = rShf (ag129 133) := kShf_eq O150_0 (orm114 c151 p150_0.2 korm156) (hGg129.I.2.1 133) (hG152.I.2.1 133)
                  have fi150_7453 : ((0 : Int) ≤ (i150 7453).toInt) ∧ ((i150 7453).toInt ≤ 40) := hG152.I.1 7453
                  have efi150_7453 : (i150 7453).toInt = (ig129 7453).toInt := hL150.ti 7453 rfl
                  have s154 : ((i150 7453) - 1).toInt = (i150 7453).toInt - (1 : Int32).toInt := kd_sub (orm115 c149 efi150_7453 korm40 korm1) (orm116 fi150_7453.2 korm1)
                  have hJ155 := kG_i hG152 7453 rfl (v := ((i150 7453) - 1)) ⟨(orm117 c149 efi150_7453 s154 korm40 korm1), (orm118 fi150_7453.2 s154 korm1)⟩
                  have s156 : (4 * ((i150 7453) - 1)).toInt = 4 * ((i150 7453) - 1).toInt := kd_cmul 4 korm4 (orm119 fi150_7453.1 s154 korm1) (orm120 fi150_7453.2 s154 korm1)
                  refine ft_go mi_k142 13 106 [(5, .int l5_150), (4, .int vg124), (0, .ref 116), (1, .int x1), (2, .int x2), (3, .int x3)] [.int x1, .int (4 * ((i150 7453) - 1)), .ref 133] (ku i150 7453 ((i150 7453) - 1)) a150 q150 r150 (by rfl) ?_
                  refine ko_iast3 mi_k142.1 (n := 160) (c := 160) (ax := (0, 0, 0, 0, 0)) (mi_k142.2 _ _ (by rfl)) (by rfl) (ksG133 _ _ _ _) (ksA133 _ _ _ _) (hJ155.I.2.1 133) rfl (orm121 c149 efi150_7453 s154 s156 korm40 korm1) (orm122 fi150_7453.2 s154 s156 korm1) ?_
                  intro a157 ea157 fa157
                  have hJ157 := kG_a3 hJ155 133 rfl ea157 fa157 (kE_cset (orm121 c149 efi150_7453 s154 s156 korm40 korm1) (orm188 fi_7424.2 w121 z2) (by have := korm1; have := korm40; have := korm156; omega))
                  have s158 : ((4 * ((i150 7453) - 1)) + 1).toInt = (4 * ((i150 7453) - 1)).toInt + (1 : Int32).toInt := kd_add (orm123 c149 efi150_7453 s154 s156 korm40 korm1) (orm124 fi150_7453.2 s154 s156 korm1)
                  refine ft_go mi_k142 9 120 [(5, .int l5_150), (4, .int vg124), (0, .ref 116), (1, .int x1), (2, .int x2), (3, .int x3)] [.int x2, .int ((4 * ((i150 7453) - 1)) + 1), .ref 133] (ku i150 7453 ((i150 7453) - 1)) a157 q150 r150 (by rfl) ?_
                  refine ko_iast3 mi_k142.1 (n := 160) (c := 160) (ax := (0, 0, 0, 0, 0)) (mi_k142.2 _ _ (by rfl)) (by rfl) (ksG133 _ _ _ _) (ksA133 _ _ _ _) (hJ157.I.2.1 133) rfl (orm125 c149 efi150_7453 s154 s156 s158 korm40 korm1) (orm126 fi150_7453.2 s154 s156 s158 korm1) ?_
                  intro a159 ea159 fa159
                  have hJ159 := kG_a3 hJ157 133 rfl ea159 fa159 (kE_cset (orm125 c149 efi150_7453 s154 s156 s158 korm40 korm1) (orm127 c149 efi150_7453 fi150_7453.2 s154 s156 s158 korm40 korm1) (orm190 w121))
                  have s160 : ((4 * ((i150 7453) - 1)) + 2).toInt = (4 * ((i150 7453) - 1)).toInt + (2 : Int32).toInt := kd_add (orm128 c149 efi150_7453 s154 s156 korm40 korm1 korm2) (orm129 fi150_7453.2 s154 s156 korm1 korm2)
                  refine ft_go mi_k142 9 135 [(5, .int l5_150), (4, .int vg124), (0, .ref 116), (1, .int x1), (2, .int x2), (3, .int x3)] [.int vg124, .int ((4 * ((i150 7453) - 1)) + 2), .ref 133] (ku i150 7453 ((i150 7453) - 1)) a159 q150 r150 (by rfl) ?_
                  refine ko_iast3 mi_k142.1 (n := 160) (c := 160) (ax := (0, 0, 0, 0, 0)) (mi_k142.2 _ _ (by rfl)) (by rfl) (ksG133 _ _ _ _) (ksA133 _ _ _ _) (hJ159.I.2.1 133) rfl (orm130 c149 efi150_7453 s154 s156 s160 korm40 korm1 korm2) (orm131 fi150_7453.2 s154 s156 s160 korm1 korm2) ?_
                  intro a161 ea161 fa161
                  have hJ161 := kG_a3 hJ159 133 rfl ea161 fa161 (kE_cset (orm130 c149 efi150_7453 s154 s156 s160 korm40 korm1 korm2) (orm132 c149 efi150_7453 fi150_7453.2 s154 s156 s160 korm40 korm1 korm2) (orm133 c149 efi150_7453 fi150_7453.2 s154 s156 s160 korm40 korm1 korm2))
                  have s162 : ((4 * ((i150 7453) - 1)) + 3).toInt = (4 * ((i150 7453) - 1)).toInt + (3 : Int32).toInt := kd_add (orm134 c149 efi150_7453 s154 s156 korm40 korm1 korm3) (orm135 fi150_7453.2 s154 s156 korm1 korm3)
                  refine ft_go mi_k142 9 149 [(5, .int l5_150), (4, .int vg124), (0, .ref 116), (1, .int x1), (2, .int x2), (3, .int x3)] [.int x3, .int ((4 * ((i150 7453) - 1)) + 3), .ref 133] (ku i150 7453 ((i150 7453) - 1)) a161 q150 r150 (by rfl) ?_
                  refine ko_iast3 mi_k142.1 (n := 160) (c := 160) (ax := (0, 0, 0, 0, 0)) (mi_k142.2 _ _ (by rfl)) (by rfl) (ksG133 _ _ _ _) (ksA133 _ _ _ _) (hJ161.I.2.1 133) rfl (orm136 c149 efi150_7453 s154 s156 s162 korm40 korm1 korm3) (orm137 fi150_7453.2 s154 s156 s162 korm1 korm3) ?_
                  intro a163 ea163 fa163
                  have hJ163 := kG_a3 hJ161 133 rfl ea163 fa163 (kE_cset (orm136 c149 efi150_7453 s154 s156 s162 korm40 korm1 korm3) (orm138 c149 efi150_7453 fi150_7453.2 s154 s156 s162 korm40 korm1 korm3) (orm139 c149 efi150_7453 fi150_7453.2 s154 s156 s162 korm40 korm1 korm3))
                  have s164 : (((i150 7453) - 1) + 1).toInt = ((i150 7453) - 1).toInt + (1 : Int32).toInt := kd_add (orm140 fi150_7453.1 s154 korm1) (orm141 fi150_7453.2 s154 s156 korm1)
                  have hJ165 := kG_i hJ163 7453 rfl (v := (((i150 7453) - 1) + 1)) ⟨(orm142 fi150_7453.1 s154 s164 korm1), (orm143 fi150_7453.2 s154 s156 s164 korm1)⟩
                  have hJ166 := kG_i hJ165 7452 rfl (v := (((i150 7453) - 1) + 1)) ⟨(orm142 fi150_7453.1 s154 s164 korm1), (orm143 fi150_7453.2 s154 s156 s164 korm1)⟩
                  refine ft_go mi_k142 11 170 [(5, .int l5_150), (4, .int vg124), (0, .ref 116), (1, .int x1), (2, .int x2), (3, .int x3)] [.int vg124] (ku (ku (ku i150 7453 ((i150 7453) - 1)) 7453 (((i150 7453) - 1) + 1)) 7452 (((i150 7453) - 1) + 1)) a163 q150 r150 (by rfl) ?_
                  have bw167 : (kTold (i 7424) x1 x2 ∧ kFit x2 x3) := ⟨(orm191 w121 z2), (kFit_2 (orm192 w121)).mpr (orm171 z123.1 z123.2)⟩
                  have bw168 : ¬ ((rGet x1 x2 (a 118, a 117, i 7426, i 7427)).toInt = x3.toInt) := (orm106 c128 u127)
                  have bw169 : (i 7453).toInt = 40 := (orm144 c149 efig129_7453 fi_7453.2 korm40)
                  exact ft_ret mi_k142 (by rfl) (hP vg124 _ _ _ _ hJ166 ⟨orm102, ⟨⟨(show vg124 = (rMend (i 7424) x1 x2 x3 (a 118, a 117, i 7426, i 7427) (a 133, i 7452, i 7453)).1 from (by unfold rMend; unfold rAdd; simp only [if_pos bw167, if_neg bw168, if_pos bw169]; (try unfold rPut); first | done | rfl | (simp only [q126, sMn, sMx]; done) | (simp only [q126, sMn, sMx]; rfl))), (show a163 118 = ((rMend (i 7424) x1 x2 x3 (a 118, a 117, i 7426, i 7427) (a 133, i 7452, i 7453)).2.1).1 from (by unfold rMend; unfold rAdd; simp only [if_pos bw167, if_neg bw168, if_pos bw169]; (try unfold rPut); first | done | rfl | (simp only [fa163 118 (by decide), fa161 118 (by decide), fa159 118 (by decide), fa157 118 (by decide), hL150.fa 118 rfl, q130, sMn, sMx]; done) | (simp only [fa163 118 (by decide), fa161 118 (by decide), fa159 118 (by decide), fa157 118 (by decide), hL150.fa 118 rfl, q130, sMn, sMx]; rfl))), (show a163 117 = ((rMend (i 7424) x1 x2 x3 (a 118, a 117, i 7426, i 7427) (a 133, i 7452, i 7453)).2.1).2.1 from (by unfold rMend; unfold rAdd; simp only [if_pos bw167, if_neg bw168, if_pos bw169]; (try unfold rPut); first | done | rfl | (simp only [fa163 117 (by decide), fa161 117 (by decide), fa159 117 (by decide), fa157 117 (by decide), hL150.fa 117 rfl, q131, sMn, sMx]; done) | (simp only [fa163 117 (by decide), fa161 117 (by decide), fa159 117 (by decide), fa157 117 (by decide), hL150.fa 117 rfl, q131, sMn, sMx]; rfl))), (show i150 7426 = ((rMend (i 7424) x1 x2 x3 (a 118, a 117, i 7426, i 7427) (a 133, i 7452, i 7453)).2.1).2.2.1 from (by unfold rMend; unfold rAdd; simp only [if_pos bw167, if_neg bw168, if_pos bw169]; (try unfold rPut); first | done | rfl | (simp only [(show i150 7426 = ig129 7426 from hL150.fi 7426 rfl), q132, sMn, sMx]; done) | (simp only [(show i150 7426 = ig129 7426 from hL150.fi 7426 rfl), q132, sMn, sMx]; rfl))), (show i150 7427 = ((rMend (i 7424) x1 x2 x3 (a 118, a 117, i 7426, i 7427) (a 133, i 7452, i 7453)).2.1).2.2.2 from (by unfold rMend; unfold rAdd; simp only [if_pos bw167, if_neg bw168, if_pos bw169]; (try unfold rPut); first | done | rfl | (simp only [(show i150 7427 = ig129 7427 from hL150.fi 7427 rfl), q133, sMn, sMx]; done) | (simp only [(show i150 7427 = ig129 7427 from hL150.fi 7427 rfl), q133, sMn, sMx]; rfl))), (show a163 133 = ((rMend (i 7424) x1 x2 x3 (a 118, a 117, i 7426, i 7427) (a 133, i 7452, i 7453)).2.2).1 from (by unfold rMend; unfold rAdd; simp only [if_pos bw167, if_neg bw168, if_pos bw169]; (try unfold rPut); first | done | rfl | (simp only [ea163, ea161, (show i150 7453 = ig129 7453 from hL150.fi 7453 rfl), (show ig129 7453 = i 7453 from kg129.fi 7453 rfl), ea159, q126, ea157, qs153, kg129.fa 133 rfl, sMn, sMx]; done) | (simp only [ea163, ea161, (show i150 7453 = ig129 7453 from hL150.fi 7453 rfl), (show ig129 7453 = i 7453 from kg129.fi 7453 rfl), ea159, q126, ea157, qs153, kg129.fa 133 rfl, sMn, sMx]; rfl))), (show (((i150 7453) - 1) + 1) = ((rMend (i 7424) x1 x2 x3 (a 118, a 117, i 7426, i 7427) (a 133, i 7452, i 7453)).2.2).2.1 from (by unfold rMend; unfold rAdd; simp only [if_pos bw167, if_neg bw168, if_pos bw169]; (try unfold rPut); first | done | rfl | (simp only [(show i150 7453 = ig129 7453 from hL150.fi 7453 rfl), (show ig129 7453 = i 7453 from kg129.fi 7453 rfl), sMn, sMx]; done) | (simp only [(show i150 7453 = ig129 7453 from hL150.fi 7453 rfl), (show ig129 7453 = i 7453 from kg129.fi 7453 rfl), sMn, sMx]; rfl))), (show (((i150 7453) - 1) + 1) = ((rMend (i 7424) x1 x2 x3 (a 118, a 117, i 7426, i 7427) (a 133, i 7452, i 7453)).2.2).2.2 from (by unfold rMend; unfold rAdd; simp only [if_pos bw167, if_neg bw168, if_pos bw169]; (try unfold rPut); first | done | rfl | (simp only [(show i150 7453 = ig129 7453 from hL150.fi 7453 rfl), (show ig129 7453 = i 7453 from kg129.fi 7453 rfl), sMn, sMx]; done) | (simp only [(show i150 7453 = ig129 7453 from hL150.fi 7453 rfl), (show ig129 7453 = i 7453 from kg129.fi 7453 rfl), sMn, sMx]; rfl)))⟩, (kChL_cast (kChL_set4 (kChL_cast (kShf_end O150_0 (orm114 c151 p150_0.2 korm156) (hL150.I.2.1 133) (kChL_cast hE_chg (kg129.fa 133 rfl))) rfl) (hJ155.I.2.1 133) (d := ((i150 7453) - 1)) (orm117 c149 efi150_7453 s154 korm40 korm1) (orm145 fi150_7453.2 s154 s156 korm1) (orm108 s156) (orm109 s156 s158 korm1) (orm110 s156 s160 korm2) (orm111 s156 s162 korm3) ea157 ea159 ea161 ea163 (orm193 w121)) rfl)⟩⟩)
                ·
                  have c170 : l5_150.toInt < (156 : Int32).toInt := kd_leF c; clear c
                  have s171 : (l5_150 + 4).toInt = l5_150.toInt + (4 : Int32).toInt := kd_add (orm146 p150_0.1 korm4) (orm147 p150_0.2 korm4)
                  refine ft_go mi_k142 8 77 [(5, .int l5_150), (4, .int vg124), (0, .ref 116), (1, .int x1), (2, .int x2), (3, .int x3)] [.int (l5_150 + 4), .ref 133, .int l5_150, .ref 133] i150 a150 q150 r150 (by rfl) ?_
                  refine ko_iald3 mi_k142.1 (n := 160) (c := 160) (ax := (0, 0, 0, 0, 0)) (mi_k142.2 _ _ (by rfl)) (by rfl) (ksG133 _ _ _ _) (hL150.I.2.1 133) rfl (orm148 p150_0.1 s171 korm4) (orm149 c170 s171 korm156 korm4) ?_
                  have r172 : ((((l5_150 + 4).toInt % 4) = 0 → (0 : Int) ≤ ((a150 133).getD (l5_150 + 4).toNatClampNeg 0).toInt ∧ ((a150 133).getD (l5_150 + 4).toNatClampNeg 0).toInt ≤ 7)) ∧ ((((l5_150 + 4).toInt % 4) = 1 → (0 : Int) ≤ ((a150 133).getD (l5_150 + 4).toNatClampNeg 0).toInt ∧ ((a150 133).getD (l5_150 + 4).toNatClampNeg 0).toInt ≤ 6)) := kE_ccond hL150.I (j := (l5_150 + 4)) (orm148 p150_0.1 s171 korm4)
                  refine ko_iast3 mi_k142.1 (n := 160) (c := 160) (ax := (0, 0, 0, 0, 0)) (mi_k142.2 _ _ (by rfl)) (by rfl) (ksG133 _ _ _ _) (ksA133 _ _ _ _) (hL150.I.2.1 133) rfl (orm0 p150_0.1) (orm150 p150_0.2) ?_
                  intro a173 ea173 fa173
                  have hJ173 := kG_a3 hL150 133 rfl ea173 fa173 (kE_cset (orm0 p150_0.1) (by have := korm4; have := korm40; have := korm156; omega) (by have := korm4; have := korm40; have := korm156; omega))
                  have s174 : (l5_150 + 1).toInt = l5_150.toInt + (1 : Int32).toInt := kd_add (orm98 p150_0.1 korm1) (orm151 p150_0.2 korm1)
                  refine ft_go mi_k142 2 55 [(5, .int (l5_150 + 1)), (4, .int vg124), (0, .ref 116), (1, .int x1), (2, .int x2), (3, .int x3)] [] i150 a173 q150 r150 (by rfl) ?_
                  exact ih150 _ _ _ _ _ hJ173 (orm152 c170 p150_0.1 s174 korm156 korm1) (kShf_step O150_0 (hL150.I.2.1 133) (orm0 p150_0.1) (orm153 c170 korm156) (orm154 s171 korm4) (orm155 s174 korm1) ea173 rfl) (kj_meas (orm156 s174 korm1) (orm157 c170 korm156) hm150)
            exact lp150 _ _ _ _ _ _ (kG_self _ hGg129.I hGg129.R) (orm158 korm0) (kShf_start rfl kn0) (Nat.lt_succ_self _)
        ·
          have c175 : vg124.toInt = x3.toInt := kd_neF c; clear c
          refine ft_go mi_k142 1 35 [(4, .int vg124), (0, .ref 116), (1, .int x1), (2, .int x2), (3, .int x3)] [.int vg124] i a q r (by rfl) ?_
          have bw176 : (kTold (i 7424) x1 x2 ∧ kFit x2 x3) := ⟨(orm191 w121 z2), (kFit_2 (orm192 w121)).mpr (orm171 z123.1 z123.2)⟩
          have bw177 : (rGet x1 x2 (a 118, a 117, i 7426, i 7427)).toInt = x3.toInt := (orm160 c175 u127)
          exact ft_ret mi_k142 (by rfl) (hP vg124 _ _ _ _ hG ⟨(orm159 hp0), ⟨⟨(show vg124 = (rMend (i 7424) x1 x2 x3 (a 118, a 117, i 7426, i 7427) (a 133, i 7452, i 7453)).1 from (by unfold rMend; simp only [if_pos bw176, if_pos bw177]; first | done | rfl | (simp only [q126, sMn, sMx]; done) | (simp only [q126, sMn, sMx]; rfl))), (show a 118 = ((rMend (i 7424) x1 x2 x3 (a 118, a 117, i 7426, i 7427) (a 133, i 7452, i 7453)).2.1).1 from (by unfold rMend; simp only [if_pos bw176, if_pos bw177]; first | done | rfl | (simp only [sMn, sMx]; done) | (simp only [sMn, sMx]; rfl))), (show a 117 = ((rMend (i 7424) x1 x2 x3 (a 118, a 117, i 7426, i 7427) (a 133, i 7452, i 7453)).2.1).2.1 from (by unfold rMend; simp only [if_pos bw176, if_pos bw177]; first | done | rfl | (simp only [sMn, sMx]; done) | (simp only [sMn, sMx]; rfl))), (show i 7426 = ((rMend (i 7424) x1 x2 x3 (a 118, a 117, i 7426, i 7427) (a 133, i 7452, i 7453)).2.1).2.2.1 from (by unfold rMend; simp only [if_pos bw176, if_pos bw177]; first | done | rfl | (simp only [sMn, sMx]; done) | (simp only [sMn, sMx]; rfl))), (show i 7427 = ((rMend (i 7424) x1 x2 x3 (a 118, a 117, i 7426, i 7427) (a 133, i 7452, i 7453)).2.1).2.2.2 from (by unfold rMend; simp only [if_pos bw176, if_pos bw177]; first | done | rfl | (simp only [sMn, sMx]; done) | (simp only [sMn, sMx]; rfl))), (show a 133 = ((rMend (i 7424) x1 x2 x3 (a 118, a 117, i 7426, i 7427) (a 133, i 7452, i 7453)).2.2).1 from (by unfold rMend; simp only [if_pos bw176, if_pos bw177]; first | done | rfl | (simp only [sMn, sMx]; done) | (simp only [sMn, sMx]; rfl))), (show i 7452 = ((rMend (i 7424) x1 x2 x3 (a 118, a 117, i 7426, i 7427) (a 133, i 7452, i 7453)).2.2).2.1 from (by unfold rMend; simp only [if_pos bw176, if_pos bw177]; first | done | rfl | (simp only [sMn, sMx]; done) | (simp only [sMn, sMx]; rfl))), (show i 7453 = ((rMend (i 7424) x1 x2 x3 (a 118, a 117, i 7426, i 7427) (a 133, i 7452, i 7453)).2.2).2.2 from (by unfold rMend; simp only [if_pos bw176, if_pos bw177]; first | done | rfl | (simp only [sMn, sMx]; done) | (simp only [sMn, sMx]; rfl)))⟩, (kChL_cast hE_chg rfl)⟩⟩)
      ·
        subst eg122
        have z178 : ¬ (((0 : Int) ≤ x3.toInt) ∧ (x3.toInt ≤ 9)) := hg122
        refine ft_go mi_k142 2 18 [(0, .ref 116), (1, .int x1), (2, .int x2), (3, .int x3)] [.int (-1)] i a q r (by rfl) ?_
        have bw179 : ¬ (kTold (i 7424) x1 x2 ∧ kFit x2 x3) := (fun z => absurd ((kFit_2 (orm192 w121)).mp z.2) (orm185 z178))
        exact ft_ret mi_k142 (by rfl) (hP (-1) _ _ _ _ hG ⟨(orm159 hp0), ⟨⟨(show ((-1) : Int32) = (rMend (i 7424) x1 x2 x3 (a 118, a 117, i 7426, i 7427) (a 133, i 7452, i 7453)).1 from (by unfold rMend; simp only [if_neg bw179]; first | done | rfl | (simp only [sMn, sMx]; done) | (simp only [sMn, sMx]; rfl))), (show a 118 = ((rMend (i 7424) x1 x2 x3 (a 118, a 117, i 7426, i 7427) (a 133, i 7452, i 7453)).2.1).1 from (by unfold rMend; simp only [if_neg bw179]; first | done | rfl | (simp only [sMn, sMx]; done) | (simp only [sMn, sMx]; rfl))), (show a 117 = ((rMend (i 7424) x1 x2 x3 (a 118, a 117, i 7426, i 7427) (a 133, i 7452, i 7453)).2.1).2.1 from (by unfold rMend; simp only [if_neg bw179]; first | done | rfl | (simp only [sMn, sMx]; done) | (simp only [sMn, sMx]; rfl))), (show i 7426 = ((rMend (i 7424) x1 x2 x3 (a 118, a 117, i 7426, i 7427) (a 133, i 7452, i 7453)).2.1).2.2.1 from (by unfold rMend; simp only [if_neg bw179]; first | done | rfl | (simp only [sMn, sMx]; done) | (simp only [sMn, sMx]; rfl))), (show i 7427 = ((rMend (i 7424) x1 x2 x3 (a 118, a 117, i 7426, i 7427) (a 133, i 7452, i 7453)).2.1).2.2.2 from (by unfold rMend; simp only [if_neg bw179]; first | done | rfl | (simp only [sMn, sMx]; done) | (simp only [sMn, sMx]; rfl))), (show a 133 = ((rMend (i 7424) x1 x2 x3 (a 118, a 117, i 7426, i 7427) (a 133, i 7452, i 7453)).2.2).1 from (by unfold rMend; simp only [if_neg bw179]; first | done | rfl | (simp only [sMn, sMx]; done) | (simp only [sMn, sMx]; rfl))), (show i 7452 = ((rMend (i 7424) x1 x2 x3 (a 118, a 117, i 7426, i 7427) (a 133, i 7452, i 7453)).2.2).2.1 from (by unfold rMend; simp only [if_neg bw179]; first | done | rfl | (simp only [sMn, sMx]; done) | (simp only [sMn, sMx]; rfl))), (show i 7453 = ((rMend (i 7424) x1 x2 x3 (a 118, a 117, i 7426, i 7427) (a 133, i 7452, i 7453)).2.2).2.2 from (by unfold rMend; simp only [if_neg bw179]; first | done | rfl | (simp only [sMn, sMx]; done) | (simp only [sMn, sMx]; rfl)))⟩, (kChL_cast hE_chg rfl)⟩⟩)
    by_cases w180 : x2.toInt = 3
    ·
      refine ko_eq (x1 := (11, [(0, .ref 116), (1, .int x1), (2, .int x2), (3, .int x3)], [.int x3, .int 3], (0, 0), ks i a q r)) (by rw [(kj_eq w180 (by decide) : x2 = 3)]) ?_
      refine ko_callPI mi_k142.1 (pc := 11) (ls := [(0, .ref 116), (1, .int x1), (2, .int x2), (3, .int x3)]) (st := [.int x3, .int 3]) (h := ks i a q r) (i := (.invokestatic 144, 3, 139, 0, 9, 0, 388)) (mi_k142.2 _ _ (by rfl)) (ft_invS mi_pq139 (by rfl)) (cy := mi_c139) mi_pq139 rfl (ke139_l03 hG.I hG.R x3) (by decide) ?_
      intro vg181 hg181
      rcases hg181 with ⟨eg181, hg181⟩ | ⟨eg181, hg181⟩
      ·
        subst eg181
        have z182 : ((0 : Int) ≤ x3.toInt) ∧ (x3.toInt ≤ 1) := hg181
        refine ft_go mi_k142 4 22 [(0, .ref 116), (1, .int x1), (2, .int x2), (3, .int x3)] [.int x2, .int x1, .ref 116] i a q r (by rfl) ?_
        refine ko_callPI mi_k142.1 (pc := 22) (ls := [(0, .ref 116), (1, .int x1), (2, .int x2), (3, .int x3)]) (st := [.int x2, .int x1, .ref 116]) (h := ks i a q r) (i := (.invokevirtual 147, 3, 140, 0, 9, 0, 389)) (mi_k142.2 _ _ (by rfl)) (ft_invS mi_pq140 (by rfl)) (cy := mi_c140) mi_pq140 rfl (ke140_116 hG.I hG.R x1 x2 (orm196 fi_7424.2 w180 z2) (orm197 w180)) (by decide) ?_
        intro vg183 hg183
        obtain ⟨hg183, og183⟩ := hg183
        have z184 : ((x2.toInt = 4) → (((1 : Int) ≤ vg183.toInt) ∧ (vg183.toInt ≤ 5))) := hg183
        have q185 : vg183 = rGet x1 x2 (a 118, a 117, i 7426, i 7427) := og183
        have u186 : vg183.toInt = (rGet x1 x2 (a 118, a 117, i 7426, i 7427)).toInt := congrArg Int32.toInt q185
        refine ft_go mi_k142 3 30 [(4, .int vg183), (0, .ref 116), (1, .int x1), (2, .int x2), (3, .int x3)] [.int x3, .int vg183] i a q r (by rfl) ?_
        refine ft_if mi_k142 (vg183 != x3) 36 33 [(4, .int vg183), (0, .ref 116), (1, .int x1), (2, .int x2), (3, .int x3)] [] (by rfl) (fun c => ?_) (fun c => ?_)
        ·
          have c187 : vg183.toInt ≠ x3.toInt := kd_ne c; clear c
          refine ft_go mi_k142 4 40 [(4, .int vg183), (0, .ref 116), (1, .int x1), (2, .int x2), (3, .int x3)] [.int x3, .int x2, .int x1, .ref 116] i a q r (by rfl) ?_
          refine ko_callN mi_k142.1 (pc := 40) (ls := [(4, .int vg183), (0, .ref 116), (1, .int x1), (2, .int x2), (3, .int x3)]) (st := [.int x3, .int x2, .int x1, .ref 116]) (h := ks i a q r) (i := (.invokevirtual 150, 3, 141, 0, 9, 0, 390)) (mi_k142.2 _ _ (by rfl)) (ft_invS mi_pq141 (by rfl)) (cy := mi_c141) mi_pq141 rfl (ke141_116 hG.I hG.R x1 x2 x3 (orm196 fi_7424.2 w180 z2) (orm197 w180) (orm32 w180)) (by decide) ?_
          intro ig188 ag188 qg188 rg188 kg188 hg188
          have hGg188 := kG_call hG kg188 (by decide +kernel)
          obtain ⟨hg188, og188⟩ := hg188
          have q189 : ag188 118 = (rSet x1 x2 x3 (a 118, a 117, i 7426, i 7427)).1 := og188.1
          have q190 : ag188 117 = (rSet x1 x2 x3 (a 118, a 117, i 7426, i 7427)).2.1 := og188.2.1
          have q191 : ig188 7426 = (rSet x1 x2 x3 (a 118, a 117, i 7426, i 7427)).2.2.1 := og188.2.2.1
          have q192 : ig188 7427 = (rSet x1 x2 x3 (a 118, a 117, i 7426, i 7427)).2.2.2 := og188.2.2.2
          have fig188_7453 : ((0 : Int) ≤ (ig188 7453).toInt) ∧ ((ig188 7453).toInt ≤ 40) := hGg188.I.1 7453
          have efig188_7453 : (ig188 7453).toInt = (i 7453).toInt := kg188.ti 7453 rfl
          refine ft_go mi_k142 3 49 [(4, .int vg183), (0, .ref 116), (1, .int x1), (2, .int x2), (3, .int x3)] [.int 40, .int (ig188 7453)] ig188 ag188 qg188 rg188 (by rfl) ?_
          refine ft_if mi_k142 ((ig188 7453) != 40) 95 52 [(4, .int vg183), (0, .ref 116), (1, .int x1), (2, .int x2), (3, .int x3)] [] (by rfl) (fun c => ?_) (fun c => ?_)
          ·
            have c193 : (ig188 7453).toInt ≠ (40 : Int32).toInt := kd_ne c; clear c
            have s194 : (4 * (ig188 7453)).toInt = 4 * (ig188 7453).toInt := kd_cmul 4 korm4 (orm79 fig188_7453.1) (orm80 fig188_7453.2)
            refine ft_go mi_k142 7 106 [(4, .int vg183), (0, .ref 116), (1, .int x1), (2, .int x2), (3, .int x3)] [.int x1, .int (4 * (ig188 7453)), .ref 133] ig188 ag188 qg188 rg188 (by rfl) ?_
            refine ko_iast3 mi_k142.1 (n := 160) (c := 160) (ax := (0, 0, 0, 0, 0)) (mi_k142.2 _ _ (by rfl)) (by rfl) (ksG133 _ _ _ _) (ksA133 _ _ _ _) (hGg188.I.2.1 133) rfl (orm81 fig188_7453.1 s194) (orm82 c193 fig188_7453.2 s194 korm40) ?_
            intro a195 ea195 fa195
            have hJ195 := kG_a3 hGg188 133 rfl ea195 fa195 (kE_cset (orm81 fig188_7453.1 s194) (orm198 fi_7424.2 w180 z2) (by have := korm40; omega))
            have s196 : ((4 * (ig188 7453)) + 1).toInt = (4 * (ig188 7453)).toInt + (1 : Int32).toInt := kd_add (orm84 fig188_7453.1 s194 korm1) (orm85 fig188_7453.2 s194 korm1)
            refine ft_go mi_k142 9 120 [(4, .int vg183), (0, .ref 116), (1, .int x1), (2, .int x2), (3, .int x3)] [.int x2, .int ((4 * (ig188 7453)) + 1), .ref 133] ig188 a195 qg188 rg188 (by rfl) ?_
            refine ko_iast3 mi_k142.1 (n := 160) (c := 160) (ax := (0, 0, 0, 0, 0)) (mi_k142.2 _ _ (by rfl)) (by rfl) (ksG133 _ _ _ _) (ksA133 _ _ _ _) (hJ195.I.2.1 133) rfl (orm86 fig188_7453.1 s194 s196 korm1) (orm87 c193 fig188_7453.2 s194 s196 korm40 korm1) ?_
            intro a197 ea197 fa197
            have hJ197 := kG_a3 hJ195 133 rfl ea197 fa197 (kE_cset (orm86 fig188_7453.1 s194 s196 korm1) (orm199 w180) (orm200 w180))
            have s198 : ((4 * (ig188 7453)) + 2).toInt = (4 * (ig188 7453)).toInt + (2 : Int32).toInt := kd_add (orm90 fig188_7453.1 s194 korm2) (orm91 fig188_7453.2 s194 korm2)
            refine ft_go mi_k142 9 135 [(4, .int vg183), (0, .ref 116), (1, .int x1), (2, .int x2), (3, .int x3)] [.int vg183, .int ((4 * (ig188 7453)) + 2), .ref 133] ig188 a197 qg188 rg188 (by rfl) ?_
            refine ko_iast3 mi_k142.1 (n := 160) (c := 160) (ax := (0, 0, 0, 0, 0)) (mi_k142.2 _ _ (by rfl)) (by rfl) (ksG133 _ _ _ _) (ksA133 _ _ _ _) (hJ197.I.2.1 133) rfl (orm92 fig188_7453.1 s194 s198 korm2) (orm93 c193 fig188_7453.2 s194 s198 korm40 korm2) ?_
            intro a199 ea199 fa199
            have hJ199 := kG_a3 hJ197 133 rfl ea199 fa199 (kE_cset (orm92 fig188_7453.1 s194 s198 korm2) (by have := korm1; have := korm2; have := korm40; omega) (by have := korm1; have := korm2; have := korm40; omega))
            have s200 : ((4 * (ig188 7453)) + 3).toInt = (4 * (ig188 7453)).toInt + (3 : Int32).toInt := kd_add (orm94 fig188_7453.1 s194 korm3) (orm95 fig188_7453.2 s194 korm3)
            refine ft_go mi_k142 9 149 [(4, .int vg183), (0, .ref 116), (1, .int x1), (2, .int x2), (3, .int x3)] [.int x3, .int ((4 * (ig188 7453)) + 3), .ref 133] ig188 a199 qg188 rg188 (by rfl) ?_
            refine ko_iast3 mi_k142.1 (n := 160) (c := 160) (ax := (0, 0, 0, 0, 0)) (mi_k142.2 _ _ (by rfl)) (by rfl) (ksG133 _ _ _ _) (ksA133 _ _ _ _) (hJ199.I.2.1 133) rfl (orm96 fig188_7453.1 s194 s200 korm3) (orm97 c193 fig188_7453.2 s194 s200 korm40 korm3) ?_
            intro a201 ea201 fa201
            have hJ201 := kG_a3 hJ199 133 rfl ea201 fa201 (kE_cset (orm96 fig188_7453.1 s194 s200 korm3) (orm201 z182.1 z182.2) (orm202 z182.1 z182.2))
            have s202 : ((ig188 7453) + 1).toInt = (ig188 7453).toInt + (1 : Int32).toInt := kd_add (orm98 fig188_7453.1 korm1) (orm99 fig188_7453.2 korm1)
            have hJ203 := kG_i hJ201 7453 rfl (v := ((ig188 7453) + 1)) ⟨(orm100 fig188_7453.1 s202 korm1), (orm101 c193 fig188_7453.2 s194 s202 korm40 korm1)⟩
            have hJ204 := kG_i hJ203 7452 rfl (v := ((ig188 7453) + 1)) ⟨(orm100 fig188_7453.1 s202 korm1), (orm101 c193 fig188_7453.2 s194 s202 korm40 korm1)⟩
            refine ft_go mi_k142 11 170 [(4, .int vg183), (0, .ref 116), (1, .int x1), (2, .int x2), (3, .int x3)] [.int vg183] (ku (ku ig188 7453 ((ig188 7453) + 1)) 7452 ((ig188 7453) + 1)) a201 qg188 rg188 (by rfl) ?_
            have bw205 : (kTold (i 7424) x1 x2 ∧ kFit x2 x3) := ⟨(orm203 w180 z2), (kFit_3 (orm204 w180)).mpr (orm205 z182.1 z182.2)⟩
            have bw206 : ¬ ((rGet x1 x2 (a 118, a 117, i 7426, i 7427)).toInt = x3.toInt) := (orm106 c187 u186)
            have bw207 : ¬ ((i 7453).toInt = 40) := (orm107 c193 efig188_7453 fig188_7453.2 s194 korm40)
            exact ft_ret mi_k142 (by rfl) (hP vg183 _ _ _ _ hJ204 ⟨orm102, ⟨⟨(show vg183 = (rMend (i 7424) x1 x2 x3 (a 118, a 117, i 7426, i 7427) (a 133, i 7452, i 7453)).1 from (by unfold rMend; unfold rAdd; simp only [if_pos bw205, if_neg bw206, if_neg bw207]; (try unfold rPut); first | done | rfl | (simp only [q185, sMn, sMx]; done) | (simp only [q185, sMn, sMx]; rfl))), (show a201 118 = ((rMend (i 7424) x1 x2 x3 (a 118, a 117, i 7426, i 7427) (a 133, i 7452, i 7453)).2.1).1 from (by unfold rMend; unfold rAdd; simp only [if_pos bw205, if_neg bw206, if_neg bw207]; (try unfold rPut); first | done | rfl | (simp only [fa201 118 (by decide), fa199 118 (by decide), fa197 118 (by decide), fa195 118 (by decide), q189, sMn, sMx]; done) | (simp only [fa201 118 (by decide), fa199 118 (by decide), fa197 118 (by decide), fa195 118 (by decide), q189, sMn, sMx]; rfl))), (show a201 117 = ((rMend (i 7424) x1 x2 x3 (a 118, a 117, i 7426, i 7427) (a 133, i 7452, i 7453)).2.1).2.1 from (by unfold rMend; unfold rAdd; simp only [if_pos bw205, if_neg bw206, if_neg bw207]; (try unfold rPut); first | done | rfl | (simp only [fa201 117 (by decide), fa199 117 (by decide), fa197 117 (by decide), fa195 117 (by decide), q190, sMn, sMx]; done) | (simp only [fa201 117 (by decide), fa199 117 (by decide), fa197 117 (by decide), fa195 117 (by decide), q190, sMn, sMx]; rfl))), (show ig188 7426 = ((rMend (i 7424) x1 x2 x3 (a 118, a 117, i 7426, i 7427) (a 133, i 7452, i 7453)).2.1).2.2.1 from (by unfold rMend; unfold rAdd; simp only [if_pos bw205, if_neg bw206, if_neg bw207]; (try unfold rPut); first | done | rfl | (simp only [q191, sMn, sMx]; done) | (simp only [q191, sMn, sMx]; rfl))), (show ig188 7427 = ((rMend (i 7424) x1 x2 x3 (a 118, a 117, i 7426, i 7427) (a 133, i 7452, i 7453)).2.1).2.2.2 from (by unfold rMend; unfold rAdd; simp only [if_pos bw205, if_neg bw206, if_neg bw207]; (try unfold rPut); first | done | rfl | (simp only [q192, sMn, sMx]; done) | (simp only [q192, sMn, sMx]; rfl))), (show a201 133 = ((rMend (i 7424) x1 x2 x3 (a 118, a 117, i 7426, i 7427) (a 133, i 7452, i 7453)).2.2).1 from (by unfold rMend; unfold rAdd; simp only [if_pos bw205, if_neg bw206, if_neg bw207]; (try unfold rPut); first | done | rfl | (simp only [ea201, ea199, (show ig188 7453 = i 7453 from kg188.fi 7453 rfl), ea197, q185, ea195, kg188.fa 133 rfl, sMn, sMx]; done) | (simp only [ea201, ea199, (show ig188 7453 = i 7453 from kg188.fi 7453 rfl), ea197, q185, ea195, kg188.fa 133 rfl, sMn, sMx]; rfl))), (show ((ig188 7453) + 1) = ((rMend (i 7424) x1 x2 x3 (a 118, a 117, i 7426, i 7427) (a 133, i 7452, i 7453)).2.2).2.1 from (by unfold rMend; unfold rAdd; simp only [if_pos bw205, if_neg bw206, if_neg bw207]; (try unfold rPut); first | done | rfl | (simp only [(show ig188 7453 = i 7453 from kg188.fi 7453 rfl), sMn, sMx]; done) | (simp only [(show ig188 7453 = i 7453 from kg188.fi 7453 rfl), sMn, sMx]; rfl))), (show ((ig188 7453) + 1) = ((rMend (i 7424) x1 x2 x3 (a 118, a 117, i 7426, i 7427) (a 133, i 7452, i 7453)).2.2).2.2 from (by unfold rMend; unfold rAdd; simp only [if_pos bw205, if_neg bw206, if_neg bw207]; (try unfold rPut); first | done | rfl | (simp only [(show ig188 7453 = i 7453 from kg188.fi 7453 rfl), sMn, sMx]; done) | (simp only [(show ig188 7453 = i 7453 from kg188.fi 7453 rfl), sMn, sMx]; rfl)))⟩, (kChL_cast (kChL_set4 (kChL_cast hE_chg (kg188.fa 133 rfl)) (hGg188.I.2.1 133) (d := (ig188 7453)) (orm0 fig188_7453.1) (orm113 c193 fig188_7453.2 s194 korm40) (orm108 s194) (orm109 s194 s196 korm1) (orm110 s194 s198 korm2) (orm111 s194 s200 korm3) ea195 ea197 ea199 ea201 (orm206 w180)) rfl)⟩⟩)
          ·
            have c208 : (ig188 7453).toInt = (40 : Int32).toInt := kd_neF c; clear c
            refine ft_go mi_k142 2 55 [(5, .int 0), (4, .int vg183), (0, .ref 116), (1, .int x1), (2, .int x2), (3, .int x3)] [] ig188 ag188 qg188 rg188 (by rfl) ?_
            have lp209 : ∀ (nz : Nat) (i209 : Nat → Int32) (a209 : Nat → List Int32) (q209 : Nat → List Int64) (r209 : Nat → Nat) (l5_209 : Int32), kG yw142_116_L55 ig188 ag188 qg188 rg188 i209 a209 q209 r209 → ((0 : Int) ≤ l5_209.toInt) ∧ (l5_209.toInt ≤ 156) → kShf (ag188 133) (a209 133) l5_209.toInt.toNat → ((156 - l5_209.toInt)).toNat < nz → ko 7 (mi_h142, mi_c142) P (55, [(5, .int l5_209), (4, .int vg183), (0, .ref 116), (1, .int x1), (2, .int x2), (3, .int x3)], [], (0, 0), ks i209 a209 q209 r209) := by
              intro nz
              induction nz with
              | zero =>
                intro _ _ _ _ _ _ _ _ hm
                exact absurd hm (Nat.not_lt_zero _)
              | succ nz ih209 =>
                intro i209 a209 q209 r209 l5_209 hL209 p209_0 O209_0 hm209
                refine ft_go mi_k142 2 60 [(5, .int l5_209), (4, .int vg183), (0, .ref 116), (1, .int x1), (2, .int x2), (3, .int x3)] [.int 156, .int l5_209] i209 a209 q209 r209 (by rfl) ?_
                refine ft_if mi_k142 (decide (156 ≤ l5_209)) 85 63 [(5, .int l5_209), (4, .int vg183), (0, .ref 116), (1, .int x1), (2, .int x2), (3, .int x3)] [] (by rfl) (fun c => ?_) (fun c => ?_)
                ·
                  have c210 : (156 : Int32).toInt ≤ l5_209.toInt := kd_le c; clear c
                  have hG211 := kG_call hGg188 hL209 (by decide +kernel)
                  have qs212 : a209 133 = rShf (ag188 133) := kShf_eq O209_0 (orm114 c210 p209_0.2 korm156) (hGg188.I.2.1 133) (hG211.I.2.1 133)
                  have fi209_7453 : ((0 : Int) ≤ (i209 7453).toInt) ∧ ((i209 7453).toInt ≤ 40) := hG211.I.1 7453
                  have efi209_7453 : (i209 7453).toInt = (ig188 7453).toInt := hL209.ti 7453 rfl
                  have s213 : ((i209 7453) - 1).toInt = (i209 7453).toInt - (1 : Int32).toInt := kd_sub (orm115 c208 efi209_7453 korm40 korm1) (orm116 fi209_7453.2 korm1)
                  have hJ214 := kG_i hG211 7453 rfl (v := ((i209 7453) - 1)) ⟨(orm117 c208 efi209_7453 s213 korm40 korm1), (orm118 fi209_7453.2 s213 korm1)⟩
                  have s215 : (4 * ((i209 7453) - 1)).toInt = 4 * ((i209 7453) - 1).toInt := kd_cmul 4 korm4 (orm119 fi209_7453.1 s213 korm1) (orm120 fi209_7453.2 s213 korm1)
                  refine ft_go mi_k142 13 106 [(5, .int l5_209), (4, .int vg183), (0, .ref 116), (1, .int x1), (2, .int x2), (3, .int x3)] [.int x1, .int (4 * ((i209 7453) - 1)), .ref 133] (ku i209 7453 ((i209 7453) - 1)) a209 q209 r209 (by rfl) ?_
                  refine ko_iast3 mi_k142.1 (n := 160) (c := 160) (ax := (0, 0, 0, 0, 0)) (mi_k142.2 _ _ (by rfl)) (by rfl) (ksG133 _ _ _ _) (ksA133 _ _ _ _) (hJ214.I.2.1 133) rfl (orm121 c208 efi209_7453 s213 s215 korm40 korm1) (orm122 fi209_7453.2 s213 s215 korm1) ?_
                  intro a216 ea216 fa216
                  have hJ216 := kG_a3 hJ214 133 rfl ea216 fa216 (kE_cset (orm121 c208 efi209_7453 s213 s215 korm40 korm1) (orm198 fi_7424.2 w180 z2) (by have := korm1; have := korm40; have := korm156; omega))
                  have s217 : ((4 * ((i209 7453) - 1)) + 1).toInt = (4 * ((i209 7453) - 1)).toInt + (1 : Int32).toInt := kd_add (orm123 c208 efi209_7453 s213 s215 korm40 korm1) (orm124 fi209_7453.2 s213 s215 korm1)
                  refine ft_go mi_k142 9 120 [(5, .int l5_209), (4, .int vg183), (0, .ref 116), (1, .int x1), (2, .int x2), (3, .int x3)] [.int x2, .int ((4 * ((i209 7453) - 1)) + 1), .ref 133] (ku i209 7453 ((i209 7453) - 1)) a216 q209 r209 (by rfl) ?_
                  refine ko_iast3 mi_k142.1 (n := 160) (c := 160) (ax := (0, 0, 0, 0, 0)) (mi_k142.2 _ _ (by rfl)) (by rfl) (ksG133 _ _ _ _) (ksA133 _ _ _ _) (hJ216.I.2.1 133) rfl (orm125 c208 efi209_7453 s213 s215 s217 korm40 korm1) (orm126 fi209_7453.2 s213 s215 s217 korm1) ?_
                  intro a218 ea218 fa218
                  have hJ218 := kG_a3 hJ216 133 rfl ea218 fa218 (kE_cset (orm125 c208 efi209_7453 s213 s215 s217 korm40 korm1) (orm127 c208 efi209_7453 fi209_7453.2 s213 s215 s217 korm40 korm1) (orm200 w180))
                  have s219 : ((4 * ((i209 7453) - 1)) + 2).toInt = (4 * ((i209 7453) - 1)).toInt + (2 : Int32).toInt := kd_add (orm128 c208 efi209_7453 s213 s215 korm40 korm1 korm2) (orm129 fi209_7453.2 s213 s215 korm1 korm2)
                  refine ft_go mi_k142 9 135 [(5, .int l5_209), (4, .int vg183), (0, .ref 116), (1, .int x1), (2, .int x2), (3, .int x3)] [.int vg183, .int ((4 * ((i209 7453) - 1)) + 2), .ref 133] (ku i209 7453 ((i209 7453) - 1)) a218 q209 r209 (by rfl) ?_
                  refine ko_iast3 mi_k142.1 (n := 160) (c := 160) (ax := (0, 0, 0, 0, 0)) (mi_k142.2 _ _ (by rfl)) (by rfl) (ksG133 _ _ _ _) (ksA133 _ _ _ _) (hJ218.I.2.1 133) rfl (orm130 c208 efi209_7453 s213 s215 s219 korm40 korm1 korm2) (orm131 fi209_7453.2 s213 s215 s219 korm1 korm2) ?_
                  intro a220 ea220 fa220
                  have hJ220 := kG_a3 hJ218 133 rfl ea220 fa220 (kE_cset (orm130 c208 efi209_7453 s213 s215 s219 korm40 korm1 korm2) (orm132 c208 efi209_7453 fi209_7453.2 s213 s215 s219 korm40 korm1 korm2) (orm133 c208 efi209_7453 fi209_7453.2 s213 s215 s219 korm40 korm1 korm2))
                  have s221 : ((4 * ((i209 7453) - 1)) + 3).toInt = (4 * ((i209 7453) - 1)).toInt + (3 : Int32).toInt := kd_add (orm134 c208 efi209_7453 s213 s215 korm40 korm1 korm3) (orm135 fi209_7453.2 s213 s215 korm1 korm3)
                  refine ft_go mi_k142 9 149 [(5, .int l5_209), (4, .int vg183), (0, .ref 116), (1, .int x1), (2, .int x2), (3, .int x3)] [.int x3, .int ((4 * ((i209 7453) - 1)) + 3), .ref 133] (ku i209 7453 ((i209 7453) - 1)) a220 q209 r209 (by rfl) ?_
                  refine ko_iast3 mi_k142.1 (n := 160) (c := 160) (ax := (0, 0, 0, 0, 0)) (mi_k142.2 _ _ (by rfl)) (by rfl) (ksG133 _ _ _ _) (ksA133 _ _ _ _) (hJ220.I.2.1 133) rfl (orm136 c208 efi209_7453 s213 s215 s221 korm40 korm1 korm3) (orm137 fi209_7453.2 s213 s215 s221 korm1 korm3) ?_
                  intro a222 ea222 fa222
                  have hJ222 := kG_a3 hJ220 133 rfl ea222 fa222 (kE_cset (orm136 c208 efi209_7453 s213 s215 s221 korm40 korm1 korm3) (orm138 c208 efi209_7453 fi209_7453.2 s213 s215 s221 korm40 korm1 korm3) (orm139 c208 efi209_7453 fi209_7453.2 s213 s215 s221 korm40 korm1 korm3))
                  have s223 : (((i209 7453) - 1) + 1).toInt = ((i209 7453) - 1).toInt + (1 : Int32).toInt := kd_add (orm140 fi209_7453.1 s213 korm1) (orm141 fi209_7453.2 s213 s215 korm1)
                  have hJ224 := kG_i hJ222 7453 rfl (v := (((i209 7453) - 1) + 1)) ⟨(orm142 fi209_7453.1 s213 s223 korm1), (orm143 fi209_7453.2 s213 s215 s223 korm1)⟩
                  have hJ225 := kG_i hJ224 7452 rfl (v := (((i209 7453) - 1) + 1)) ⟨(orm142 fi209_7453.1 s213 s223 korm1), (orm143 fi209_7453.2 s213 s215 s223 korm1)⟩
                  refine ft_go mi_k142 11 170 [(5, .int l5_209), (4, .int vg183), (0, .ref 116), (1, .int x1), (2, .int x2), (3, .int x3)] [.int vg183] (ku (ku (ku i209 7453 ((i209 7453) - 1)) 7453 (((i209 7453) - 1) + 1)) 7452 (((i209 7453) - 1) + 1)) a222 q209 r209 (by rfl) ?_
                  have bw226 : (kTold (i 7424) x1 x2 ∧ kFit x2 x3) := ⟨(orm203 w180 z2), (kFit_3 (orm204 w180)).mpr (orm205 z182.1 z182.2)⟩
                  have bw227 : ¬ ((rGet x1 x2 (a 118, a 117, i 7426, i 7427)).toInt = x3.toInt) := (orm106 c187 u186)
                  have bw228 : (i 7453).toInt = 40 := (orm144 c208 efig188_7453 fi_7453.2 korm40)
                  exact ft_ret mi_k142 (by rfl) (hP vg183 _ _ _ _ hJ225 ⟨orm102, ⟨⟨(show vg183 = (rMend (i 7424) x1 x2 x3 (a 118, a 117, i 7426, i 7427) (a 133, i 7452, i 7453)).1 from (by unfold rMend; unfold rAdd; simp only [if_pos bw226, if_neg bw227, if_pos bw228]; (try unfold rPut); first | done | rfl | (simp only [q185, sMn, sMx]; done) | (simp only [q185, sMn, sMx]; rfl))), (show a222 118 = ((rMend (i 7424) x1 x2 x3 (a 118, a 117, i 7426, i 7427) (a 133, i 7452, i 7453)).2.1).1 from (by unfold rMend; unfold rAdd; simp only [if_pos bw226, if_neg bw227, if_pos bw228]; (try unfold rPut); first | done | rfl | (simp only [fa222 118 (by decide), fa220 118 (by decide), fa218 118 (by decide), fa216 118 (by decide), hL209.fa 118 rfl, q189, sMn, sMx]; done) | (simp only [fa222 118 (by decide), fa220 118 (by decide), fa218 118 (by decide), fa216 118 (by decide), hL209.fa 118 rfl, q189, sMn, sMx]; rfl))), (show a222 117 = ((rMend (i 7424) x1 x2 x3 (a 118, a 117, i 7426, i 7427) (a 133, i 7452, i 7453)).2.1).2.1 from (by unfold rMend; unfold rAdd; simp only [if_pos bw226, if_neg bw227, if_pos bw228]; (try unfold rPut); first | done | rfl | (simp only [fa222 117 (by decide), fa220 117 (by decide), fa218 117 (by decide), fa216 117 (by decide), hL209.fa 117 rfl, q190, sMn, sMx]; done) | (simp only [fa222 117 (by decide), fa220 117 (by decide), fa218 117 (by decide), fa216 117 (by decide), hL209.fa 117 rfl, q190, sMn, sMx]; rfl))), (show i209 7426 = ((rMend (i 7424) x1 x2 x3 (a 118, a 117, i 7426, i 7427) (a 133, i 7452, i 7453)).2.1).2.2.1 from (by unfold rMend; unfold rAdd; simp only [if_pos bw226, if_neg bw227, if_pos bw228]; (try unfold rPut); first | done | rfl | (simp only [(show i209 7426 = ig188 7426 from hL209.fi 7426 rfl), q191, sMn, sMx]; done) | (simp only [(show i209 7426 = ig188 7426 from hL209.fi 7426 rfl), q191, sMn, sMx]; rfl))), (show i209 7427 = ((rMend (i 7424) x1 x2 x3 (a 118, a 117, i 7426, i 7427) (a 133, i 7452, i 7453)).2.1).2.2.2 from (by unfold rMend; unfold rAdd; simp only [if_pos bw226, if_neg bw227, if_pos bw228]; (try unfold rPut); first | done | rfl | (simp only [(show i209 7427 = ig188 7427 from hL209.fi 7427 rfl), q192, sMn, sMx]; done) | (simp only [(show i209 7427 = ig188 7427 from hL209.fi 7427 rfl), q192, sMn, sMx]; rfl))), (show a222 133 = ((rMend (i 7424) x1 x2 x3 (a 118, a 117, i 7426, i 7427) (a 133, i 7452, i 7453)).2.2).1 from (by unfold rMend; unfold rAdd; simp only [if_pos bw226, if_neg bw227, if_pos bw228]; (try unfold rPut); first | done | rfl | (simp only [ea222, ea220, (show i209 7453 = ig188 7453 from hL209.fi 7453 rfl), (show ig188 7453 = i 7453 from kg188.fi 7453 rfl), ea218, q185, ea216, qs212, kg188.fa 133 rfl, sMn, sMx]; done) | (simp only [ea222, ea220, (show i209 7453 = ig188 7453 from hL209.fi 7453 rfl), (show ig188 7453 = i 7453 from kg188.fi 7453 rfl), ea218, q185, ea216, qs212, kg188.fa 133 rfl, sMn, sMx]; rfl))), (show (((i209 7453) - 1) + 1) = ((rMend (i 7424) x1 x2 x3 (a 118, a 117, i 7426, i 7427) (a 133, i 7452, i 7453)).2.2).2.1 from (by unfold rMend; unfold rAdd; simp only [if_pos bw226, if_neg bw227, if_pos bw228]; (try unfold rPut); first | done | rfl | (simp only [(show i209 7453 = ig188 7453 from hL209.fi 7453 rfl), (show ig188 7453 = i 7453 from kg188.fi 7453 rfl), sMn, sMx]; done) | (simp only [(show i209 7453 = ig188 7453 from hL209.fi 7453 rfl), (show ig188 7453 = i 7453 from kg188.fi 7453 rfl), sMn, sMx]; rfl))), (show (((i209 7453) - 1) + 1) = ((rMend (i 7424) x1 x2 x3 (a 118, a 117, i 7426, i 7427) (a 133, i 7452, i 7453)).2.2).2.2 from (by unfold rMend; unfold rAdd; simp only [if_pos bw226, if_neg bw227, if_pos bw228]; (try unfold rPut); first | done | rfl | (simp only [(show i209 7453 = ig188 7453 from hL209.fi 7453 rfl), (show ig188 7453 = i 7453 from kg188.fi 7453 rfl), sMn, sMx]; done) | (simp only [(show i209 7453 = ig188 7453 from hL209.fi 7453 rfl), (show ig188 7453 = i 7453 from kg188.fi 7453 rfl), sMn, sMx]; rfl)))⟩, (kChL_cast (kChL_set4 (kChL_cast (kShf_end O209_0 (orm114 c210 p209_0.2 korm156) (hL209.I.2.1 133) (kChL_cast hE_chg (kg188.fa 133 rfl))) rfl) (hJ214.I.2.1 133) (d := ((i209 7453) - 1)) (orm117 c208 efi209_7453 s213 korm40 korm1) (orm145 fi209_7453.2 s213 s215 korm1) (orm108 s215) (orm109 s215 s217 korm1) (orm110 s215 s219 korm2) (orm111 s215 s221 korm3) ea216 ea218 ea220 ea222 (orm206 w180)) rfl)⟩⟩)
                ·
                  have c229 : l5_209.toInt < (156 : Int32).toInt := kd_leF c; clear c
                  have s230 : (l5_209 + 4).toInt = l5_209.toInt + (4 : Int32).toInt := kd_add (orm146 p209_0.1 korm4) (orm147 p209_0.2 korm4)
                  refine ft_go mi_k142 8 77 [(5, .int l5_209), (4, .int vg183), (0, .ref 116), (1, .int x1), (2, .int x2), (3, .int x3)] [.int (l5_209 + 4), .ref 133, .int l5_209, .ref 133] i209 a209 q209 r209 (by rfl) ?_
                  refine ko_iald3 mi_k142.1 (n := 160) (c := 160) (ax := (0, 0, 0, 0, 0)) (mi_k142.2 _ _ (by rfl)) (by rfl) (ksG133 _ _ _ _) (hL209.I.2.1 133) rfl (orm148 p209_0.1 s230 korm4) (orm149 c229 s230 korm156 korm4) ?_
                  have r231 : ((((l5_209 + 4).toInt % 4) = 0 → (0 : Int) ≤ ((a209 133).getD (l5_209 + 4).toNatClampNeg 0).toInt ∧ ((a209 133).getD (l5_209 + 4).toNatClampNeg 0).toInt ≤ 7)) ∧ ((((l5_209 + 4).toInt % 4) = 1 → (0 : Int) ≤ ((a209 133).getD (l5_209 + 4).toNatClampNeg 0).toInt ∧ ((a209 133).getD (l5_209 + 4).toNatClampNeg 0).toInt ≤ 6)) := kE_ccond hL209.I (j := (l5_209 + 4)) (orm148 p209_0.1 s230 korm4)
                  refine ko_iast3 mi_k142.1 (n := 160) (c := 160) (ax := (0, 0, 0, 0, 0)) (mi_k142.2 _ _ (by rfl)) (by rfl) (ksG133 _ _ _ _) (ksA133 _ _ _ _) (hL209.I.2.1 133) rfl (orm0 p209_0.1) (orm150 p209_0.2) ?_
                  intro a232 ea232 fa232
                  have hJ232 := kG_a3 hL209 133 rfl ea232 fa232 (kE_cset (orm0 p209_0.1) (by have := korm4; have := korm40; have := korm156; omega) (by have := korm4; have := korm40; have := korm156; omega))
                  have s233 : (l5_209 + 1).toInt = l5_209.toInt + (1 : Int32).toInt := kd_add (orm98 p209_0.1 korm1) (orm151 p209_0.2 korm1)
                  refine ft_go mi_k142 2 55 [(5, .int (l5_209 + 1)), (4, .int vg183), (0, .ref 116), (1, .int x1), (2, .int x2), (3, .int x3)] [] i209 a232 q209 r209 (by rfl) ?_
                  exact ih209 _ _ _ _ _ hJ232 (orm152 c229 p209_0.1 s233 korm156 korm1) (kShf_step O209_0 (hL209.I.2.1 133) (orm0 p209_0.1) (orm153 c229 korm156) (orm154 s230 korm4) (orm155 s233 korm1) ea232 rfl) (kj_meas (orm156 s233 korm1) (orm157 c229 korm156) hm209)
            exact lp209 _ _ _ _ _ _ (kG_self _ hGg188.I hGg188.R) (orm158 korm0) (kShf_start rfl kn0) (Nat.lt_succ_self _)
        ·
          have c234 : vg183.toInt = x3.toInt := kd_neF c; clear c
          refine ft_go mi_k142 1 35 [(4, .int vg183), (0, .ref 116), (1, .int x1), (2, .int x2), (3, .int x3)] [.int vg183] i a q r (by rfl) ?_
          have bw235 : (kTold (i 7424) x1 x2 ∧ kFit x2 x3) := ⟨(orm203 w180 z2), (kFit_3 (orm204 w180)).mpr (orm205 z182.1 z182.2)⟩
          have bw236 : (rGet x1 x2 (a 118, a 117, i 7426, i 7427)).toInt = x3.toInt := (orm160 c234 u186)
          exact ft_ret mi_k142 (by rfl) (hP vg183 _ _ _ _ hG ⟨(orm159 hp0), ⟨⟨(show vg183 = (rMend (i 7424) x1 x2 x3 (a 118, a 117, i 7426, i 7427) (a 133, i 7452, i 7453)).1 from (by unfold rMend; simp only [if_pos bw235, if_pos bw236]; first | done | rfl | (simp only [q185, sMn, sMx]; done) | (simp only [q185, sMn, sMx]; rfl))), (show a 118 = ((rMend (i 7424) x1 x2 x3 (a 118, a 117, i 7426, i 7427) (a 133, i 7452, i 7453)).2.1).1 from (by unfold rMend; simp only [if_pos bw235, if_pos bw236]; first | done | rfl | (simp only [sMn, sMx]; done) | (simp only [sMn, sMx]; rfl))), (show a 117 = ((rMend (i 7424) x1 x2 x3 (a 118, a 117, i 7426, i 7427) (a 133, i 7452, i 7453)).2.1).2.1 from (by unfold rMend; simp only [if_pos bw235, if_pos bw236]; first | done | rfl | (simp only [sMn, sMx]; done) | (simp only [sMn, sMx]; rfl))), (show i 7426 = ((rMend (i 7424) x1 x2 x3 (a 118, a 117, i 7426, i 7427) (a 133, i 7452, i 7453)).2.1).2.2.1 from (by unfold rMend; simp only [if_pos bw235, if_pos bw236]; first | done | rfl | (simp only [sMn, sMx]; done) | (simp only [sMn, sMx]; rfl))), (show i 7427 = ((rMend (i 7424) x1 x2 x3 (a 118, a 117, i 7426, i 7427) (a 133, i 7452, i 7453)).2.1).2.2.2 from (by unfold rMend; simp only [if_pos bw235, if_pos bw236]; first | done | rfl | (simp only [sMn, sMx]; done) | (simp only [sMn, sMx]; rfl))), (show a 133 = ((rMend (i 7424) x1 x2 x3 (a 118, a 117, i 7426, i 7427) (a 133, i 7452, i 7453)).2.2).1 from (by unfold rMend; simp only [if_pos bw235, if_pos bw236]; first | done | rfl | (simp only [sMn, sMx]; done) | (simp only [sMn, sMx]; rfl))), (show i 7452 = ((rMend (i 7424) x1 x2 x3 (a 118, a 117, i 7426, i 7427) (a 133, i 7452, i 7453)).2.2).2.1 from (by unfold rMend; simp only [if_pos bw235, if_pos bw236]; first | done | rfl | (simp only [sMn, sMx]; done) | (simp only [sMn, sMx]; rfl))), (show i 7453 = ((rMend (i 7424) x1 x2 x3 (a 118, a 117, i 7426, i 7427) (a 133, i 7452, i 7453)).2.2).2.2 from (by unfold rMend; simp only [if_pos bw235, if_pos bw236]; first | done | rfl | (simp only [sMn, sMx]; done) | (simp only [sMn, sMx]; rfl)))⟩, (kChL_cast hE_chg rfl)⟩⟩)
      ·
        subst eg181
        have z237 : ¬ (((0 : Int) ≤ x3.toInt) ∧ (x3.toInt ≤ 1)) := hg181
        refine ft_go mi_k142 2 18 [(0, .ref 116), (1, .int x1), (2, .int x2), (3, .int x3)] [.int (-1)] i a q r (by rfl) ?_
        have bw238 : ¬ (kTold (i 7424) x1 x2 ∧ kFit x2 x3) := (fun z => absurd ((kFit_3 (orm204 w180)).mp z.2) (orm207 z237))
        exact ft_ret mi_k142 (by rfl) (hP (-1) _ _ _ _ hG ⟨(orm159 hp0), ⟨⟨(show ((-1) : Int32) = (rMend (i 7424) x1 x2 x3 (a 118, a 117, i 7426, i 7427) (a 133, i 7452, i 7453)).1 from (by unfold rMend; simp only [if_neg bw238]; first | done | rfl | (simp only [sMn, sMx]; done) | (simp only [sMn, sMx]; rfl))), (show a 118 = ((rMend (i 7424) x1 x2 x3 (a 118, a 117, i 7426, i 7427) (a 133, i 7452, i 7453)).2.1).1 from (by unfold rMend; simp only [if_neg bw238]; first | done | rfl | (simp only [sMn, sMx]; done) | (simp only [sMn, sMx]; rfl))), (show a 117 = ((rMend (i 7424) x1 x2 x3 (a 118, a 117, i 7426, i 7427) (a 133, i 7452, i 7453)).2.1).2.1 from (by unfold rMend; simp only [if_neg bw238]; first | done | rfl | (simp only [sMn, sMx]; done) | (simp only [sMn, sMx]; rfl))), (show i 7426 = ((rMend (i 7424) x1 x2 x3 (a 118, a 117, i 7426, i 7427) (a 133, i 7452, i 7453)).2.1).2.2.1 from (by unfold rMend; simp only [if_neg bw238]; first | done | rfl | (simp only [sMn, sMx]; done) | (simp only [sMn, sMx]; rfl))), (show i 7427 = ((rMend (i 7424) x1 x2 x3 (a 118, a 117, i 7426, i 7427) (a 133, i 7452, i 7453)).2.1).2.2.2 from (by unfold rMend; simp only [if_neg bw238]; first | done | rfl | (simp only [sMn, sMx]; done) | (simp only [sMn, sMx]; rfl))), (show a 133 = ((rMend (i 7424) x1 x2 x3 (a 118, a 117, i 7426, i 7427) (a 133, i 7452, i 7453)).2.2).1 from (by unfold rMend; simp only [if_neg bw238]; first | done | rfl | (simp only [sMn, sMx]; done) | (simp only [sMn, sMx]; rfl))), (show i 7452 = ((rMend (i 7424) x1 x2 x3 (a 118, a 117, i 7426, i 7427) (a 133, i 7452, i 7453)).2.2).2.1 from (by unfold rMend; simp only [if_neg bw238]; first | done | rfl | (simp only [sMn, sMx]; done) | (simp only [sMn, sMx]; rfl))), (show i 7453 = ((rMend (i 7424) x1 x2 x3 (a 118, a 117, i 7426, i 7427) (a 133, i 7452, i 7453)).2.2).2.2 from (by unfold rMend; simp only [if_neg bw238]; first | done | rfl | (simp only [sMn, sMx]; done) | (simp only [sMn, sMx]; rfl)))⟩, (kChL_cast hE_chg rfl)⟩⟩)
    by_cases w239 : x2.toInt = 4
    ·
      refine ko_eq (x1 := (11, [(0, .ref 116), (1, .int x1), (2, .int x2), (3, .int x3)], [.int x3, .int 4], (0, 0), ks i a q r)) (by rw [(kj_eq w239 (by decide) : x2 = 4)]) ?_
      refine ko_callPI mi_k142.1 (pc := 11) (ls := [(0, .ref 116), (1, .int x1), (2, .int x2), (3, .int x3)]) (st := [.int x3, .int 4]) (h := ks i a q r) (i := (.invokestatic 144, 3, 139, 0, 9, 0, 388)) (mi_k142.2 _ _ (by rfl)) (ft_invS mi_pq139 (by rfl)) (cy := mi_c139) mi_pq139 rfl (ke139_l04 hG.I hG.R x3) (by decide) ?_
      intro vg240 hg240
      rcases hg240 with ⟨eg240, hg240⟩ | ⟨eg240, hg240⟩
      ·
        subst eg240
        have z241 : ((1 : Int) ≤ x3.toInt) ∧ (x3.toInt ≤ 5) := hg240
        refine ft_go mi_k142 4 22 [(0, .ref 116), (1, .int x1), (2, .int x2), (3, .int x3)] [.int x2, .int x1, .ref 116] i a q r (by rfl) ?_
        refine ko_callPI mi_k142.1 (pc := 22) (ls := [(0, .ref 116), (1, .int x1), (2, .int x2), (3, .int x3)]) (st := [.int x2, .int x1, .ref 116]) (h := ks i a q r) (i := (.invokevirtual 147, 3, 140, 0, 9, 0, 389)) (mi_k142.2 _ _ (by rfl)) (ft_invS mi_pq140 (by rfl)) (cy := mi_c140) mi_pq140 rfl (ke140_116 hG.I hG.R x1 x2 (orm210 w239 z2) (orm211 w239)) (by decide) ?_
        intro vg242 hg242
        obtain ⟨hg242, og242⟩ := hg242
        have z243 : ((x2.toInt = 4) → (((1 : Int) ≤ vg242.toInt) ∧ (vg242.toInt ≤ 5))) := hg242
        have q244 : vg242 = rGet x1 x2 (a 118, a 117, i 7426, i 7427) := og242
        have u245 : vg242.toInt = (rGet x1 x2 (a 118, a 117, i 7426, i 7427)).toInt := congrArg Int32.toInt q244
        refine ft_go mi_k142 3 30 [(4, .int vg242), (0, .ref 116), (1, .int x1), (2, .int x2), (3, .int x3)] [.int x3, .int vg242] i a q r (by rfl) ?_
        refine ft_if mi_k142 (vg242 != x3) 36 33 [(4, .int vg242), (0, .ref 116), (1, .int x1), (2, .int x2), (3, .int x3)] [] (by rfl) (fun c => ?_) (fun c => ?_)
        ·
          have c246 : vg242.toInt ≠ x3.toInt := kd_ne c; clear c
          refine ft_go mi_k142 4 40 [(4, .int vg242), (0, .ref 116), (1, .int x1), (2, .int x2), (3, .int x3)] [.int x3, .int x2, .int x1, .ref 116] i a q r (by rfl) ?_
          refine ko_callN mi_k142.1 (pc := 40) (ls := [(4, .int vg242), (0, .ref 116), (1, .int x1), (2, .int x2), (3, .int x3)]) (st := [.int x3, .int x2, .int x1, .ref 116]) (h := ks i a q r) (i := (.invokevirtual 150, 3, 141, 0, 9, 0, 390)) (mi_k142.2 _ _ (by rfl)) (ft_invS mi_pq141 (by rfl)) (cy := mi_c141) mi_pq141 rfl (ke141_116 hG.I hG.R x1 x2 x3 (orm210 w239 z2) (orm211 w239) (orm37 z241.1 z241.2)) (by decide) ?_
          intro ig247 ag247 qg247 rg247 kg247 hg247
          have hGg247 := kG_call hG kg247 (by decide +kernel)
          obtain ⟨hg247, og247⟩ := hg247
          have q248 : ag247 118 = (rSet x1 x2 x3 (a 118, a 117, i 7426, i 7427)).1 := og247.1
          have q249 : ag247 117 = (rSet x1 x2 x3 (a 118, a 117, i 7426, i 7427)).2.1 := og247.2.1
          have q250 : ig247 7426 = (rSet x1 x2 x3 (a 118, a 117, i 7426, i 7427)).2.2.1 := og247.2.2.1
          have q251 : ig247 7427 = (rSet x1 x2 x3 (a 118, a 117, i 7426, i 7427)).2.2.2 := og247.2.2.2
          have fig247_7453 : ((0 : Int) ≤ (ig247 7453).toInt) ∧ ((ig247 7453).toInt ≤ 40) := hGg247.I.1 7453
          have efig247_7453 : (ig247 7453).toInt = (i 7453).toInt := kg247.ti 7453 rfl
          refine ft_go mi_k142 3 49 [(4, .int vg242), (0, .ref 116), (1, .int x1), (2, .int x2), (3, .int x3)] [.int 40, .int (ig247 7453)] ig247 ag247 qg247 rg247 (by rfl) ?_
          refine ft_if mi_k142 ((ig247 7453) != 40) 95 52 [(4, .int vg242), (0, .ref 116), (1, .int x1), (2, .int x2), (3, .int x3)] [] (by rfl) (fun c => ?_) (fun c => ?_)
          ·
            have c252 : (ig247 7453).toInt ≠ (40 : Int32).toInt := kd_ne c; clear c
            have s253 : (4 * (ig247 7453)).toInt = 4 * (ig247 7453).toInt := kd_cmul 4 korm4 (orm79 fig247_7453.1) (orm80 fig247_7453.2)
            refine ft_go mi_k142 7 106 [(4, .int vg242), (0, .ref 116), (1, .int x1), (2, .int x2), (3, .int x3)] [.int x1, .int (4 * (ig247 7453)), .ref 133] ig247 ag247 qg247 rg247 (by rfl) ?_
            refine ko_iast3 mi_k142.1 (n := 160) (c := 160) (ax := (0, 0, 0, 0, 0)) (mi_k142.2 _ _ (by rfl)) (by rfl) (ksG133 _ _ _ _) (ksA133 _ _ _ _) (hGg247.I.2.1 133) rfl (orm81 fig247_7453.1 s253) (orm82 c252 fig247_7453.2 s253 korm40) ?_
            intro a254 ea254 fa254
            have hJ254 := kG_a3 hGg247 133 rfl ea254 fa254 (kE_cset (orm81 fig247_7453.1 s253) (orm212 w239 z2) (orm213 w239 z2))
            have s255 : ((4 * (ig247 7453)) + 1).toInt = (4 * (ig247 7453)).toInt + (1 : Int32).toInt := kd_add (orm84 fig247_7453.1 s253 korm1) (orm85 fig247_7453.2 s253 korm1)
            refine ft_go mi_k142 9 120 [(4, .int vg242), (0, .ref 116), (1, .int x1), (2, .int x2), (3, .int x3)] [.int x2, .int ((4 * (ig247 7453)) + 1), .ref 133] ig247 a254 qg247 rg247 (by rfl) ?_
            refine ko_iast3 mi_k142.1 (n := 160) (c := 160) (ax := (0, 0, 0, 0, 0)) (mi_k142.2 _ _ (by rfl)) (by rfl) (ksG133 _ _ _ _) (ksA133 _ _ _ _) (hJ254.I.2.1 133) rfl (orm86 fig247_7453.1 s253 s255 korm1) (orm87 c252 fig247_7453.2 s253 s255 korm40 korm1) ?_
            intro a256 ea256 fa256
            have hJ256 := kG_a3 hJ254 133 rfl ea256 fa256 (kE_cset (orm86 fig247_7453.1 s253 s255 korm1) (orm214 w239) (orm215 w239))
            have s257 : ((4 * (ig247 7453)) + 2).toInt = (4 * (ig247 7453)).toInt + (2 : Int32).toInt := kd_add (orm90 fig247_7453.1 s253 korm2) (orm91 fig247_7453.2 s253 korm2)
            refine ft_go mi_k142 9 135 [(4, .int vg242), (0, .ref 116), (1, .int x1), (2, .int x2), (3, .int x3)] [.int vg242, .int ((4 * (ig247 7453)) + 2), .ref 133] ig247 a256 qg247 rg247 (by rfl) ?_
            refine ko_iast3 mi_k142.1 (n := 160) (c := 160) (ax := (0, 0, 0, 0, 0)) (mi_k142.2 _ _ (by rfl)) (by rfl) (ksG133 _ _ _ _) (ksA133 _ _ _ _) (hJ256.I.2.1 133) rfl (orm92 fig247_7453.1 s253 s257 korm2) (orm93 c252 fig247_7453.2 s253 s257 korm40 korm2) ?_
            intro a258 ea258 fa258
            have hJ258 := kG_a3 hJ256 133 rfl ea258 fa258 (kE_cset (orm92 fig247_7453.1 s253 s257 korm2) (orm216 w239 z243) (orm217 w239 z243))
            have s259 : ((4 * (ig247 7453)) + 3).toInt = (4 * (ig247 7453)).toInt + (3 : Int32).toInt := kd_add (orm94 fig247_7453.1 s253 korm3) (orm95 fig247_7453.2 s253 korm3)
            refine ft_go mi_k142 9 149 [(4, .int vg242), (0, .ref 116), (1, .int x1), (2, .int x2), (3, .int x3)] [.int x3, .int ((4 * (ig247 7453)) + 3), .ref 133] ig247 a258 qg247 rg247 (by rfl) ?_
            refine ko_iast3 mi_k142.1 (n := 160) (c := 160) (ax := (0, 0, 0, 0, 0)) (mi_k142.2 _ _ (by rfl)) (by rfl) (ksG133 _ _ _ _) (ksA133 _ _ _ _) (hJ258.I.2.1 133) rfl (orm96 fig247_7453.1 s253 s259 korm3) (orm97 c252 fig247_7453.2 s253 s259 korm40 korm3) ?_
            intro a260 ea260 fa260
            have hJ260 := kG_a3 hJ258 133 rfl ea260 fa260 (kE_cset (orm96 fig247_7453.1 s253 s259 korm3) (orm218 z241.1 z241.2) (orm219 z241.1 z241.2))
            have s261 : ((ig247 7453) + 1).toInt = (ig247 7453).toInt + (1 : Int32).toInt := kd_add (orm98 fig247_7453.1 korm1) (orm99 fig247_7453.2 korm1)
            have hJ262 := kG_i hJ260 7453 rfl (v := ((ig247 7453) + 1)) ⟨(orm100 fig247_7453.1 s261 korm1), (orm101 c252 fig247_7453.2 s253 s261 korm40 korm1)⟩
            have hJ263 := kG_i hJ262 7452 rfl (v := ((ig247 7453) + 1)) ⟨(orm100 fig247_7453.1 s261 korm1), (orm101 c252 fig247_7453.2 s253 s261 korm40 korm1)⟩
            refine ft_go mi_k142 11 170 [(4, .int vg242), (0, .ref 116), (1, .int x1), (2, .int x2), (3, .int x3)] [.int vg242] (ku (ku ig247 7453 ((ig247 7453) + 1)) 7452 ((ig247 7453) + 1)) a260 qg247 rg247 (by rfl) ?_
            have bw264 : (kTold (i 7424) x1 x2 ∧ kFit x2 x3) := ⟨(orm220 w239 z2), (kFit_4 (orm39 w239)).mpr (orm221 z241.1 z241.2)⟩
            have bw265 : ¬ ((rGet x1 x2 (a 118, a 117, i 7426, i 7427)).toInt = x3.toInt) := (orm106 c246 u245)
            have bw266 : ¬ ((i 7453).toInt = 40) := (orm107 c252 efig247_7453 fig247_7453.2 s253 korm40)
            exact ft_ret mi_k142 (by rfl) (hP vg242 _ _ _ _ hJ263 ⟨orm102, ⟨⟨(show vg242 = (rMend (i 7424) x1 x2 x3 (a 118, a 117, i 7426, i 7427) (a 133, i 7452, i 7453)).1 from (by unfold rMend; unfold rAdd; simp only [if_pos bw264, if_neg bw265, if_neg bw266]; (try unfold rPut); first | done | rfl | (simp only [q244, sMn, sMx]; done) | (simp only [q244, sMn, sMx]; rfl))), (show a260 118 = ((rMend (i 7424) x1 x2 x3 (a 118, a 117, i 7426, i 7427) (a 133, i 7452, i 7453)).2.1).1 from (by unfold rMend; unfold rAdd; simp only [if_pos bw264, if_neg bw265, if_neg bw266]; (try unfold rPut); first | done | rfl | (simp only [fa260 118 (by decide), fa258 118 (by decide), fa256 118 (by decide), fa254 118 (by decide), q248, sMn, sMx]; done) | (simp only [fa260 118 (by decide), fa258 118 (by decide), fa256 118 (by decide), fa254 118 (by decide), q248, sMn, sMx]; rfl))), (show a260 117 = ((rMend (i 7424) x1 x2 x3 (a 118, a 117, i 7426, i 7427) (a 133, i 7452, i 7453)).2.1).2.1 from (by unfold rMend; unfold rAdd; simp only [if_pos bw264, if_neg bw265, if_neg bw266]; (try unfold rPut); first | done | rfl | (simp only [fa260 117 (by decide), fa258 117 (by decide), fa256 117 (by decide), fa254 117 (by decide), q249, sMn, sMx]; done) | (simp only [fa260 117 (by decide), fa258 117 (by decide), fa256 117 (by decide), fa254 117 (by decide), q249, sMn, sMx]; rfl))), (show ig247 7426 = ((rMend (i 7424) x1 x2 x3 (a 118, a 117, i 7426, i 7427) (a 133, i 7452, i 7453)).2.1).2.2.1 from (by unfold rMend; unfold rAdd; simp only [if_pos bw264, if_neg bw265, if_neg bw266]; (try unfold rPut); first | done | rfl | (simp only [q250, sMn, sMx]; done) | (simp only [q250, sMn, sMx]; rfl))), (show ig247 7427 = ((rMend (i 7424) x1 x2 x3 (a 118, a 117, i 7426, i 7427) (a 133, i 7452, i 7453)).2.1).2.2.2 from (by unfold rMend; unfold rAdd; simp only [if_pos bw264, if_neg bw265, if_neg bw266]; (try unfold rPut); first | done | rfl | (simp only [q251, sMn, sMx]; done) | (simp only [q251, sMn, sMx]; rfl))), (show a260 133 = ((rMend (i 7424) x1 x2 x3 (a 118, a 117, i 7426, i 7427) (a 133, i 7452, i 7453)).2.2).1 from (by unfold rMend; unfold rAdd; simp only [if_pos bw264, if_neg bw265, if_neg bw266]; (try unfold rPut); first | done | rfl | (simp only [ea260, ea258, (show ig247 7453 = i 7453 from kg247.fi 7453 rfl), ea256, q244, ea254, kg247.fa 133 rfl, sMn, sMx]; done) | (simp only [ea260, ea258, (show ig247 7453 = i 7453 from kg247.fi 7453 rfl), ea256, q244, ea254, kg247.fa 133 rfl, sMn, sMx]; rfl))), (show ((ig247 7453) + 1) = ((rMend (i 7424) x1 x2 x3 (a 118, a 117, i 7426, i 7427) (a 133, i 7452, i 7453)).2.2).2.1 from (by unfold rMend; unfold rAdd; simp only [if_pos bw264, if_neg bw265, if_neg bw266]; (try unfold rPut); first | done | rfl | (simp only [(show ig247 7453 = i 7453 from kg247.fi 7453 rfl), sMn, sMx]; done) | (simp only [(show ig247 7453 = i 7453 from kg247.fi 7453 rfl), sMn, sMx]; rfl))), (show ((ig247 7453) + 1) = ((rMend (i 7424) x1 x2 x3 (a 118, a 117, i 7426, i 7427) (a 133, i 7452, i 7453)).2.2).2.2 from (by unfold rMend; unfold rAdd; simp only [if_pos bw264, if_neg bw265, if_neg bw266]; (try unfold rPut); first | done | rfl | (simp only [(show ig247 7453 = i 7453 from kg247.fi 7453 rfl), sMn, sMx]; done) | (simp only [(show ig247 7453 = i 7453 from kg247.fi 7453 rfl), sMn, sMx]; rfl)))⟩, (kChL_cast (kChL_set4 (kChL_cast hE_chg (kg247.fa 133 rfl)) (hGg247.I.2.1 133) (d := (ig247 7453)) (orm0 fig247_7453.1) (orm113 c252 fig247_7453.2 s253 korm40) (orm108 s253) (orm109 s253 s255 korm1) (orm110 s253 s257 korm2) (orm111 s253 s259 korm3) ea254 ea256 ea258 ea260 (orm222 w239 z241.1 z241.2 z243)) rfl)⟩⟩)
          ·
            have c267 : (ig247 7453).toInt = (40 : Int32).toInt := kd_neF c; clear c
            refine ft_go mi_k142 2 55 [(5, .int 0), (4, .int vg242), (0, .ref 116), (1, .int x1), (2, .int x2), (3, .int x3)] [] ig247 ag247 qg247 rg247 (by rfl) ?_
            have lp268 : ∀ (nz : Nat) (i268 : Nat → Int32) (a268 : Nat → List Int32) (q268 : Nat → List Int64) (r268 : Nat → Nat) (l5_268 : Int32), kG yw142_116_L55 ig247 ag247 qg247 rg247 i268 a268 q268 r268 → ((0 : Int) ≤ l5_268.toInt) ∧ (l5_268.toInt ≤ 156) → kShf (ag247 133) (a268 133) l5_268.toInt.toNat → ((156 - l5_268.toInt)).toNat < nz → ko 7 (mi_h142, mi_c142) P (55, [(5, .int l5_268), (4, .int vg242), (0, .ref 116), (1, .int x1), (2, .int x2), (3, .int x3)], [], (0, 0), ks i268 a268 q268 r268) := by
              intro nz
              induction nz with
              | zero =>
                intro _ _ _ _ _ _ _ _ hm
                exact absurd hm (Nat.not_lt_zero _)
              | succ nz ih268 =>
                intro i268 a268 q268 r268 l5_268 hL268 p268_0 O268_0 hm268
                refine ft_go mi_k142 2 60 [(5, .int l5_268), (4, .int vg242), (0, .ref 116), (1, .int x1), (2, .int x2), (3, .int x3)] [.int 156, .int l5_268] i268 a268 q268 r268 (by rfl) ?_
                refine ft_if mi_k142 (decide (156 ≤ l5_268)) 85 63 [(5, .int l5_268), (4, .int vg242), (0, .ref 116), (1, .int x1), (2, .int x2), (3, .int x3)] [] (by rfl) (fun c => ?_) (fun c => ?_)
                ·
                  have c269 : (156 : Int32).toInt ≤ l5_268.toInt := kd_le c; clear c
                  have hG270 := kG_call hGg247 hL268 (by decide +kernel)
                  have qs271 : a268 133 = rShf (ag247 133) := kShf_eq O268_0 (orm114 c269 p268_0.2 korm156) (hGg247.I.2.1 133) (hG270.I.2.1 133)
                  have fi268_7453 : ((0 : Int) ≤ (i268 7453).toInt) ∧ ((i268 7453).toInt ≤ 40) := hG270.I.1 7453
                  have efi268_7453 : (i268 7453).toInt = (ig247 7453).toInt := hL268.ti 7453 rfl
                  have s272 : ((i268 7453) - 1).toInt = (i268 7453).toInt - (1 : Int32).toInt := kd_sub (orm115 c267 efi268_7453 korm40 korm1) (orm116 fi268_7453.2 korm1)
                  have hJ273 := kG_i hG270 7453 rfl (v := ((i268 7453) - 1)) ⟨(orm117 c267 efi268_7453 s272 korm40 korm1), (orm118 fi268_7453.2 s272 korm1)⟩
                  have s274 : (4 * ((i268 7453) - 1)).toInt = 4 * ((i268 7453) - 1).toInt := kd_cmul 4 korm4 (orm119 fi268_7453.1 s272 korm1) (orm120 fi268_7453.2 s272 korm1)
                  refine ft_go mi_k142 13 106 [(5, .int l5_268), (4, .int vg242), (0, .ref 116), (1, .int x1), (2, .int x2), (3, .int x3)] [.int x1, .int (4 * ((i268 7453) - 1)), .ref 133] (ku i268 7453 ((i268 7453) - 1)) a268 q268 r268 (by rfl) ?_
                  refine ko_iast3 mi_k142.1 (n := 160) (c := 160) (ax := (0, 0, 0, 0, 0)) (mi_k142.2 _ _ (by rfl)) (by rfl) (ksG133 _ _ _ _) (ksA133 _ _ _ _) (hJ273.I.2.1 133) rfl (orm121 c267 efi268_7453 s272 s274 korm40 korm1) (orm122 fi268_7453.2 s272 s274 korm1) ?_
                  intro a275 ea275 fa275
                  have hJ275 := kG_a3 hJ273 133 rfl ea275 fa275 (kE_cset (orm121 c267 efi268_7453 s272 s274 korm40 korm1) (orm212 w239 z2) (orm213 w239 z2))
                  have s276 : ((4 * ((i268 7453) - 1)) + 1).toInt = (4 * ((i268 7453) - 1)).toInt + (1 : Int32).toInt := kd_add (orm123 c267 efi268_7453 s272 s274 korm40 korm1) (orm124 fi268_7453.2 s272 s274 korm1)
                  refine ft_go mi_k142 9 120 [(5, .int l5_268), (4, .int vg242), (0, .ref 116), (1, .int x1), (2, .int x2), (3, .int x3)] [.int x2, .int ((4 * ((i268 7453) - 1)) + 1), .ref 133] (ku i268 7453 ((i268 7453) - 1)) a275 q268 r268 (by rfl) ?_
                  refine ko_iast3 mi_k142.1 (n := 160) (c := 160) (ax := (0, 0, 0, 0, 0)) (mi_k142.2 _ _ (by rfl)) (by rfl) (ksG133 _ _ _ _) (ksA133 _ _ _ _) (hJ275.I.2.1 133) rfl (orm125 c267 efi268_7453 s272 s274 s276 korm40 korm1) (orm126 fi268_7453.2 s272 s274 s276 korm1) ?_
                  intro a277 ea277 fa277
                  have hJ277 := kG_a3 hJ275 133 rfl ea277 fa277 (kE_cset (orm125 c267 efi268_7453 s272 s274 s276 korm40 korm1) (orm127 c267 efi268_7453 fi268_7453.2 s272 s274 s276 korm40 korm1) (orm215 w239))
                  have s278 : ((4 * ((i268 7453) - 1)) + 2).toInt = (4 * ((i268 7453) - 1)).toInt + (2 : Int32).toInt := kd_add (orm128 c267 efi268_7453 s272 s274 korm40 korm1 korm2) (orm129 fi268_7453.2 s272 s274 korm1 korm2)
                  refine ft_go mi_k142 9 135 [(5, .int l5_268), (4, .int vg242), (0, .ref 116), (1, .int x1), (2, .int x2), (3, .int x3)] [.int vg242, .int ((4 * ((i268 7453) - 1)) + 2), .ref 133] (ku i268 7453 ((i268 7453) - 1)) a277 q268 r268 (by rfl) ?_
                  refine ko_iast3 mi_k142.1 (n := 160) (c := 160) (ax := (0, 0, 0, 0, 0)) (mi_k142.2 _ _ (by rfl)) (by rfl) (ksG133 _ _ _ _) (ksA133 _ _ _ _) (hJ277.I.2.1 133) rfl (orm130 c267 efi268_7453 s272 s274 s278 korm40 korm1 korm2) (orm131 fi268_7453.2 s272 s274 s278 korm1 korm2) ?_
                  intro a279 ea279 fa279
                  have hJ279 := kG_a3 hJ277 133 rfl ea279 fa279 (kE_cset (orm130 c267 efi268_7453 s272 s274 s278 korm40 korm1 korm2) (orm132 c267 efi268_7453 fi268_7453.2 s272 s274 s278 korm40 korm1 korm2) (orm133 c267 efi268_7453 fi268_7453.2 s272 s274 s278 korm40 korm1 korm2))
                  have s280 : ((4 * ((i268 7453) - 1)) + 3).toInt = (4 * ((i268 7453) - 1)).toInt + (3 : Int32).toInt := kd_add (orm134 c267 efi268_7453 s272 s274 korm40 korm1 korm3) (orm135 fi268_7453.2 s272 s274 korm1 korm3)
                  refine ft_go mi_k142 9 149 [(5, .int l5_268), (4, .int vg242), (0, .ref 116), (1, .int x1), (2, .int x2), (3, .int x3)] [.int x3, .int ((4 * ((i268 7453) - 1)) + 3), .ref 133] (ku i268 7453 ((i268 7453) - 1)) a279 q268 r268 (by rfl) ?_
                  refine ko_iast3 mi_k142.1 (n := 160) (c := 160) (ax := (0, 0, 0, 0, 0)) (mi_k142.2 _ _ (by rfl)) (by rfl) (ksG133 _ _ _ _) (ksA133 _ _ _ _) (hJ279.I.2.1 133) rfl (orm136 c267 efi268_7453 s272 s274 s280 korm40 korm1 korm3) (orm137 fi268_7453.2 s272 s274 s280 korm1 korm3) ?_
                  intro a281 ea281 fa281
                  have hJ281 := kG_a3 hJ279 133 rfl ea281 fa281 (kE_cset (orm136 c267 efi268_7453 s272 s274 s280 korm40 korm1 korm3) (orm138 c267 efi268_7453 fi268_7453.2 s272 s274 s280 korm40 korm1 korm3) (orm139 c267 efi268_7453 fi268_7453.2 s272 s274 s280 korm40 korm1 korm3))
                  have s282 : (((i268 7453) - 1) + 1).toInt = ((i268 7453) - 1).toInt + (1 : Int32).toInt := kd_add (orm140 fi268_7453.1 s272 korm1) (orm141 fi268_7453.2 s272 s274 korm1)
                  have hJ283 := kG_i hJ281 7453 rfl (v := (((i268 7453) - 1) + 1)) ⟨(orm142 fi268_7453.1 s272 s282 korm1), (orm143 fi268_7453.2 s272 s274 s282 korm1)⟩
                  have hJ284 := kG_i hJ283 7452 rfl (v := (((i268 7453) - 1) + 1)) ⟨(orm142 fi268_7453.1 s272 s282 korm1), (orm143 fi268_7453.2 s272 s274 s282 korm1)⟩
                  refine ft_go mi_k142 11 170 [(5, .int l5_268), (4, .int vg242), (0, .ref 116), (1, .int x1), (2, .int x2), (3, .int x3)] [.int vg242] (ku (ku (ku i268 7453 ((i268 7453) - 1)) 7453 (((i268 7453) - 1) + 1)) 7452 (((i268 7453) - 1) + 1)) a281 q268 r268 (by rfl) ?_
                  have bw285 : (kTold (i 7424) x1 x2 ∧ kFit x2 x3) := ⟨(orm220 w239 z2), (kFit_4 (orm39 w239)).mpr (orm221 z241.1 z241.2)⟩
                  have bw286 : ¬ ((rGet x1 x2 (a 118, a 117, i 7426, i 7427)).toInt = x3.toInt) := (orm106 c246 u245)
                  have bw287 : (i 7453).toInt = 40 := (orm144 c267 efig247_7453 fi_7453.2 korm40)
                  exact ft_ret mi_k142 (by rfl) (hP vg242 _ _ _ _ hJ284 ⟨orm102, ⟨⟨(show vg242 = (rMend (i 7424) x1 x2 x3 (a 118, a 117, i 7426, i 7427) (a 133, i 7452, i 7453)).1 from (by unfold rMend; unfold rAdd; simp only [if_pos bw285, if_neg bw286, if_pos bw287]; (try unfold rPut); first | done | rfl | (simp only [q244, sMn, sMx]; done) | (simp only [q244, sMn, sMx]; rfl))), (show a281 118 = ((rMend (i 7424) x1 x2 x3 (a 118, a 117, i 7426, i 7427) (a 133, i 7452, i 7453)).2.1).1 from (by unfold rMend; unfold rAdd; simp only [if_pos bw285, if_neg bw286, if_pos bw287]; (try unfold rPut); first | done | rfl | (simp only [fa281 118 (by decide), fa279 118 (by decide), fa277 118 (by decide), fa275 118 (by decide), hL268.fa 118 rfl, q248, sMn, sMx]; done) | (simp only [fa281 118 (by decide), fa279 118 (by decide), fa277 118 (by decide), fa275 118 (by decide), hL268.fa 118 rfl, q248, sMn, sMx]; rfl))), (show a281 117 = ((rMend (i 7424) x1 x2 x3 (a 118, a 117, i 7426, i 7427) (a 133, i 7452, i 7453)).2.1).2.1 from (by unfold rMend; unfold rAdd; simp only [if_pos bw285, if_neg bw286, if_pos bw287]; (try unfold rPut); first | done | rfl | (simp only [fa281 117 (by decide), fa279 117 (by decide), fa277 117 (by decide), fa275 117 (by decide), hL268.fa 117 rfl, q249, sMn, sMx]; done) | (simp only [fa281 117 (by decide), fa279 117 (by decide), fa277 117 (by decide), fa275 117 (by decide), hL268.fa 117 rfl, q249, sMn, sMx]; rfl))), (show i268 7426 = ((rMend (i 7424) x1 x2 x3 (a 118, a 117, i 7426, i 7427) (a 133, i 7452, i 7453)).2.1).2.2.1 from (by unfold rMend; unfold rAdd; simp only [if_pos bw285, if_neg bw286, if_pos bw287]; (try unfold rPut); first | done | rfl | (simp only [(show i268 7426 = ig247 7426 from hL268.fi 7426 rfl), q250, sMn, sMx]; done) | (simp only [(show i268 7426 = ig247 7426 from hL268.fi 7426 rfl), q250, sMn, sMx]; rfl))), (show i268 7427 = ((rMend (i 7424) x1 x2 x3 (a 118, a 117, i 7426, i 7427) (a 133, i 7452, i 7453)).2.1).2.2.2 from (by unfold rMend; unfold rAdd; simp only [if_pos bw285, if_neg bw286, if_pos bw287]; (try unfold rPut); first | done | rfl | (simp only [(show i268 7427 = ig247 7427 from hL268.fi 7427 rfl), q251, sMn, sMx]; done) | (simp only [(show i268 7427 = ig247 7427 from hL268.fi 7427 rfl), q251, sMn, sMx]; rfl))), (show a281 133 = ((rMend (i 7424) x1 x2 x3 (a 118, a 117, i 7426, i 7427) (a 133, i 7452, i 7453)).2.2).1 from (by unfold rMend; unfold rAdd; simp only [if_pos bw285, if_neg bw286, if_pos bw287]; (try unfold rPut); first | done | rfl | (simp only [ea281, ea279, (show i268 7453 = ig247 7453 from hL268.fi 7453 rfl), (show ig247 7453 = i 7453 from kg247.fi 7453 rfl), ea277, q244, ea275, qs271, kg247.fa 133 rfl, sMn, sMx]; done) | (simp only [ea281, ea279, (show i268 7453 = ig247 7453 from hL268.fi 7453 rfl), (show ig247 7453 = i 7453 from kg247.fi 7453 rfl), ea277, q244, ea275, qs271, kg247.fa 133 rfl, sMn, sMx]; rfl))), (show (((i268 7453) - 1) + 1) = ((rMend (i 7424) x1 x2 x3 (a 118, a 117, i 7426, i 7427) (a 133, i 7452, i 7453)).2.2).2.1 from (by unfold rMend; unfold rAdd; simp only [if_pos bw285, if_neg bw286, if_pos bw287]; (try unfold rPut); first | done | rfl | (simp only [(show i268 7453 = ig247 7453 from hL268.fi 7453 rfl), (show ig247 7453 = i 7453 from kg247.fi 7453 rfl), sMn, sMx]; done) | (simp only [(show i268 7453 = ig247 7453 from hL268.fi 7453 rfl), (show ig247 7453 = i 7453 from kg247.fi 7453 rfl), sMn, sMx]; rfl))), (show (((i268 7453) - 1) + 1) = ((rMend (i 7424) x1 x2 x3 (a 118, a 117, i 7426, i 7427) (a 133, i 7452, i 7453)).2.2).2.2 from (by unfold rMend; unfold rAdd; simp only [if_pos bw285, if_neg bw286, if_pos bw287]; (try unfold rPut); first | done | rfl | (simp only [(show i268 7453 = ig247 7453 from hL268.fi 7453 rfl), (show ig247 7453 = i 7453 from kg247.fi 7453 rfl), sMn, sMx]; done) | (simp only [(show i268 7453 = ig247 7453 from hL268.fi 7453 rfl), (show ig247 7453 = i 7453 from kg247.fi 7453 rfl), sMn, sMx]; rfl)))⟩, (kChL_cast (kChL_set4 (kChL_cast (kShf_end O268_0 (orm114 c269 p268_0.2 korm156) (hL268.I.2.1 133) (kChL_cast hE_chg (kg247.fa 133 rfl))) rfl) (hJ273.I.2.1 133) (d := ((i268 7453) - 1)) (orm117 c267 efi268_7453 s272 korm40 korm1) (orm145 fi268_7453.2 s272 s274 korm1) (orm108 s274) (orm109 s274 s276 korm1) (orm110 s274 s278 korm2) (orm111 s274 s280 korm3) ea275 ea277 ea279 ea281 (orm222 w239 z241.1 z241.2 z243)) rfl)⟩⟩)
                ·
                  have c288 : l5_268.toInt < (156 : Int32).toInt := kd_leF c; clear c
                  have s289 : (l5_268 + 4).toInt = l5_268.toInt + (4 : Int32).toInt := kd_add (orm146 p268_0.1 korm4) (orm147 p268_0.2 korm4)
                  refine ft_go mi_k142 8 77 [(5, .int l5_268), (4, .int vg242), (0, .ref 116), (1, .int x1), (2, .int x2), (3, .int x3)] [.int (l5_268 + 4), .ref 133, .int l5_268, .ref 133] i268 a268 q268 r268 (by rfl) ?_
                  refine ko_iald3 mi_k142.1 (n := 160) (c := 160) (ax := (0, 0, 0, 0, 0)) (mi_k142.2 _ _ (by rfl)) (by rfl) (ksG133 _ _ _ _) (hL268.I.2.1 133) rfl (orm148 p268_0.1 s289 korm4) (orm149 c288 s289 korm156 korm4) ?_
                  have r290 : ((((l5_268 + 4).toInt % 4) = 0 → (0 : Int) ≤ ((a268 133).getD (l5_268 + 4).toNatClampNeg 0).toInt ∧ ((a268 133).getD (l5_268 + 4).toNatClampNeg 0).toInt ≤ 7)) ∧ ((((l5_268 + 4).toInt % 4) = 1 → (0 : Int) ≤ ((a268 133).getD (l5_268 + 4).toNatClampNeg 0).toInt ∧ ((a268 133).getD (l5_268 + 4).toNatClampNeg 0).toInt ≤ 6)) := kE_ccond hL268.I (j := (l5_268 + 4)) (orm148 p268_0.1 s289 korm4)
                  refine ko_iast3 mi_k142.1 (n := 160) (c := 160) (ax := (0, 0, 0, 0, 0)) (mi_k142.2 _ _ (by rfl)) (by rfl) (ksG133 _ _ _ _) (ksA133 _ _ _ _) (hL268.I.2.1 133) rfl (orm0 p268_0.1) (orm150 p268_0.2) ?_
                  intro a291 ea291 fa291
                  have hJ291 := kG_a3 hL268 133 rfl ea291 fa291 (kE_cset (orm0 p268_0.1) (by have := korm4; have := korm40; have := korm156; omega) (by have := korm4; have := korm40; have := korm156; omega))
                  have s292 : (l5_268 + 1).toInt = l5_268.toInt + (1 : Int32).toInt := kd_add (orm98 p268_0.1 korm1) (orm151 p268_0.2 korm1)
                  refine ft_go mi_k142 2 55 [(5, .int (l5_268 + 1)), (4, .int vg242), (0, .ref 116), (1, .int x1), (2, .int x2), (3, .int x3)] [] i268 a291 q268 r268 (by rfl) ?_
                  exact ih268 _ _ _ _ _ hJ291 (orm152 c288 p268_0.1 s292 korm156 korm1) (kShf_step O268_0 (hL268.I.2.1 133) (orm0 p268_0.1) (orm153 c288 korm156) (orm154 s289 korm4) (orm155 s292 korm1) ea291 rfl) (kj_meas (orm156 s292 korm1) (orm157 c288 korm156) hm268)
            exact lp268 _ _ _ _ _ _ (kG_self _ hGg247.I hGg247.R) (orm158 korm0) (kShf_start rfl kn0) (Nat.lt_succ_self _)
        ·
          have c293 : vg242.toInt = x3.toInt := kd_neF c; clear c
          refine ft_go mi_k142 1 35 [(4, .int vg242), (0, .ref 116), (1, .int x1), (2, .int x2), (3, .int x3)] [.int vg242] i a q r (by rfl) ?_
          have bw294 : (kTold (i 7424) x1 x2 ∧ kFit x2 x3) := ⟨(orm220 w239 z2), (kFit_4 (orm39 w239)).mpr (orm221 z241.1 z241.2)⟩
          have bw295 : (rGet x1 x2 (a 118, a 117, i 7426, i 7427)).toInt = x3.toInt := (orm160 c293 u245)
          exact ft_ret mi_k142 (by rfl) (hP vg242 _ _ _ _ hG ⟨(orm159 hp0), ⟨⟨(show vg242 = (rMend (i 7424) x1 x2 x3 (a 118, a 117, i 7426, i 7427) (a 133, i 7452, i 7453)).1 from (by unfold rMend; simp only [if_pos bw294, if_pos bw295]; first | done | rfl | (simp only [q244, sMn, sMx]; done) | (simp only [q244, sMn, sMx]; rfl))), (show a 118 = ((rMend (i 7424) x1 x2 x3 (a 118, a 117, i 7426, i 7427) (a 133, i 7452, i 7453)).2.1).1 from (by unfold rMend; simp only [if_pos bw294, if_pos bw295]; first | done | rfl | (simp only [sMn, sMx]; done) | (simp only [sMn, sMx]; rfl))), (show a 117 = ((rMend (i 7424) x1 x2 x3 (a 118, a 117, i 7426, i 7427) (a 133, i 7452, i 7453)).2.1).2.1 from (by unfold rMend; simp only [if_pos bw294, if_pos bw295]; first | done | rfl | (simp only [sMn, sMx]; done) | (simp only [sMn, sMx]; rfl))), (show i 7426 = ((rMend (i 7424) x1 x2 x3 (a 118, a 117, i 7426, i 7427) (a 133, i 7452, i 7453)).2.1).2.2.1 from (by unfold rMend; simp only [if_pos bw294, if_pos bw295]; first | done | rfl | (simp only [sMn, sMx]; done) | (simp only [sMn, sMx]; rfl))), (show i 7427 = ((rMend (i 7424) x1 x2 x3 (a 118, a 117, i 7426, i 7427) (a 133, i 7452, i 7453)).2.1).2.2.2 from (by unfold rMend; simp only [if_pos bw294, if_pos bw295]; first | done | rfl | (simp only [sMn, sMx]; done) | (simp only [sMn, sMx]; rfl))), (show a 133 = ((rMend (i 7424) x1 x2 x3 (a 118, a 117, i 7426, i 7427) (a 133, i 7452, i 7453)).2.2).1 from (by unfold rMend; simp only [if_pos bw294, if_pos bw295]; first | done | rfl | (simp only [sMn, sMx]; done) | (simp only [sMn, sMx]; rfl))), (show i 7452 = ((rMend (i 7424) x1 x2 x3 (a 118, a 117, i 7426, i 7427) (a 133, i 7452, i 7453)).2.2).2.1 from (by unfold rMend; simp only [if_pos bw294, if_pos bw295]; first | done | rfl | (simp only [sMn, sMx]; done) | (simp only [sMn, sMx]; rfl))), (show i 7453 = ((rMend (i 7424) x1 x2 x3 (a 118, a 117, i 7426, i 7427) (a 133, i 7452, i 7453)).2.2).2.2 from (by unfold rMend; simp only [if_pos bw294, if_pos bw295]; first | done | rfl | (simp only [sMn, sMx]; done) | (simp only [sMn, sMx]; rfl)))⟩, (kChL_cast hE_chg rfl)⟩⟩)
      ·
        subst eg240
        have z296 : ¬ (((1 : Int) ≤ x3.toInt) ∧ (x3.toInt ≤ 5)) := hg240
        refine ft_go mi_k142 2 18 [(0, .ref 116), (1, .int x1), (2, .int x2), (3, .int x3)] [.int (-1)] i a q r (by rfl) ?_
        have bw297 : ¬ (kTold (i 7424) x1 x2 ∧ kFit x2 x3) := (fun z => absurd ((kFit_4 (orm39 w239)).mp z.2) (orm223 z296))
        exact ft_ret mi_k142 (by rfl) (hP (-1) _ _ _ _ hG ⟨(orm159 hp0), ⟨⟨(show ((-1) : Int32) = (rMend (i 7424) x1 x2 x3 (a 118, a 117, i 7426, i 7427) (a 133, i 7452, i 7453)).1 from (by unfold rMend; simp only [if_neg bw297]; first | done | rfl | (simp only [sMn, sMx]; done) | (simp only [sMn, sMx]; rfl))), (show a 118 = ((rMend (i 7424) x1 x2 x3 (a 118, a 117, i 7426, i 7427) (a 133, i 7452, i 7453)).2.1).1 from (by unfold rMend; simp only [if_neg bw297]; first | done | rfl | (simp only [sMn, sMx]; done) | (simp only [sMn, sMx]; rfl))), (show a 117 = ((rMend (i 7424) x1 x2 x3 (a 118, a 117, i 7426, i 7427) (a 133, i 7452, i 7453)).2.1).2.1 from (by unfold rMend; simp only [if_neg bw297]; first | done | rfl | (simp only [sMn, sMx]; done) | (simp only [sMn, sMx]; rfl))), (show i 7426 = ((rMend (i 7424) x1 x2 x3 (a 118, a 117, i 7426, i 7427) (a 133, i 7452, i 7453)).2.1).2.2.1 from (by unfold rMend; simp only [if_neg bw297]; first | done | rfl | (simp only [sMn, sMx]; done) | (simp only [sMn, sMx]; rfl))), (show i 7427 = ((rMend (i 7424) x1 x2 x3 (a 118, a 117, i 7426, i 7427) (a 133, i 7452, i 7453)).2.1).2.2.2 from (by unfold rMend; simp only [if_neg bw297]; first | done | rfl | (simp only [sMn, sMx]; done) | (simp only [sMn, sMx]; rfl))), (show a 133 = ((rMend (i 7424) x1 x2 x3 (a 118, a 117, i 7426, i 7427) (a 133, i 7452, i 7453)).2.2).1 from (by unfold rMend; simp only [if_neg bw297]; first | done | rfl | (simp only [sMn, sMx]; done) | (simp only [sMn, sMx]; rfl))), (show i 7452 = ((rMend (i 7424) x1 x2 x3 (a 118, a 117, i 7426, i 7427) (a 133, i 7452, i 7453)).2.2).2.1 from (by unfold rMend; simp only [if_neg bw297]; first | done | rfl | (simp only [sMn, sMx]; done) | (simp only [sMn, sMx]; rfl))), (show i 7453 = ((rMend (i 7424) x1 x2 x3 (a 118, a 117, i 7426, i 7427) (a 133, i 7452, i 7453)).2.2).2.2 from (by unfold rMend; simp only [if_neg bw297]; first | done | rfl | (simp only [sMn, sMx]; done) | (simp only [sMn, sMx]; rfl)))⟩, (kChL_cast hE_chg rfl)⟩⟩)
    by_cases w298 : x2.toInt = 5
    ·
      refine ko_eq (x1 := (11, [(0, .ref 116), (1, .int x1), (2, .int x2), (3, .int x3)], [.int x3, .int 5], (0, 0), ks i a q r)) (by rw [(kj_eq w298 (by decide) : x2 = 5)]) ?_
      refine ko_callPI mi_k142.1 (pc := 11) (ls := [(0, .ref 116), (1, .int x1), (2, .int x2), (3, .int x3)]) (st := [.int x3, .int 5]) (h := ks i a q r) (i := (.invokestatic 144, 3, 139, 0, 9, 0, 388)) (mi_k142.2 _ _ (by rfl)) (ft_invS mi_pq139 (by rfl)) (cy := mi_c139) mi_pq139 rfl (ke139_l05 hG.I hG.R x3) (by decide) ?_
      intro vg299 hg299
      rcases hg299 with ⟨eg299, hg299⟩ | ⟨eg299, hg299⟩
      ·
        subst eg299
        have z300 : ((0 : Int) ≤ x3.toInt) ∧ (x3.toInt ≤ 1) := hg299
        refine ft_go mi_k142 4 22 [(0, .ref 116), (1, .int x1), (2, .int x2), (3, .int x3)] [.int x2, .int x1, .ref 116] i a q r (by rfl) ?_
        refine ko_callPI mi_k142.1 (pc := 22) (ls := [(0, .ref 116), (1, .int x1), (2, .int x2), (3, .int x3)]) (st := [.int x2, .int x1, .ref 116]) (h := ks i a q r) (i := (.invokevirtual 147, 3, 140, 0, 9, 0, 389)) (mi_k142.2 _ _ (by rfl)) (ft_invS mi_pq140 (by rfl)) (cy := mi_c140) mi_pq140 rfl (ke140_116 hG.I hG.R x1 x2 (orm224 w298 z2) (orm225 w298)) (by decide) ?_
        intro vg301 hg301
        obtain ⟨hg301, og301⟩ := hg301
        have z302 : ((x2.toInt = 4) → (((1 : Int) ≤ vg301.toInt) ∧ (vg301.toInt ≤ 5))) := hg301
        have q303 : vg301 = rGet x1 x2 (a 118, a 117, i 7426, i 7427) := og301
        have u304 : vg301.toInt = (rGet x1 x2 (a 118, a 117, i 7426, i 7427)).toInt := congrArg Int32.toInt q303
        refine ft_go mi_k142 3 30 [(4, .int vg301), (0, .ref 116), (1, .int x1), (2, .int x2), (3, .int x3)] [.int x3, .int vg301] i a q r (by rfl) ?_
        refine ft_if mi_k142 (vg301 != x3) 36 33 [(4, .int vg301), (0, .ref 116), (1, .int x1), (2, .int x2), (3, .int x3)] [] (by rfl) (fun c => ?_) (fun c => ?_)
        ·
          have c305 : vg301.toInt ≠ x3.toInt := kd_ne c; clear c
          refine ft_go mi_k142 4 40 [(4, .int vg301), (0, .ref 116), (1, .int x1), (2, .int x2), (3, .int x3)] [.int x3, .int x2, .int x1, .ref 116] i a q r (by rfl) ?_
          refine ko_callN mi_k142.1 (pc := 40) (ls := [(4, .int vg301), (0, .ref 116), (1, .int x1), (2, .int x2), (3, .int x3)]) (st := [.int x3, .int x2, .int x1, .ref 116]) (h := ks i a q r) (i := (.invokevirtual 150, 3, 141, 0, 9, 0, 390)) (mi_k142.2 _ _ (by rfl)) (ft_invS mi_pq141 (by rfl)) (cy := mi_c141) mi_pq141 rfl (ke141_116 hG.I hG.R x1 x2 x3 (orm224 w298 z2) (orm225 w298) (orm40 w298)) (by decide) ?_
          intro ig306 ag306 qg306 rg306 kg306 hg306
          have hGg306 := kG_call hG kg306 (by decide +kernel)
          obtain ⟨hg306, og306⟩ := hg306
          have q307 : ag306 118 = (rSet x1 x2 x3 (a 118, a 117, i 7426, i 7427)).1 := og306.1
          have q308 : ag306 117 = (rSet x1 x2 x3 (a 118, a 117, i 7426, i 7427)).2.1 := og306.2.1
          have q309 : ig306 7426 = (rSet x1 x2 x3 (a 118, a 117, i 7426, i 7427)).2.2.1 := og306.2.2.1
          have q310 : ig306 7427 = (rSet x1 x2 x3 (a 118, a 117, i 7426, i 7427)).2.2.2 := og306.2.2.2
          have fig306_7453 : ((0 : Int) ≤ (ig306 7453).toInt) ∧ ((ig306 7453).toInt ≤ 40) := hGg306.I.1 7453
          have efig306_7453 : (ig306 7453).toInt = (i 7453).toInt := kg306.ti 7453 rfl
          refine ft_go mi_k142 3 49 [(4, .int vg301), (0, .ref 116), (1, .int x1), (2, .int x2), (3, .int x3)] [.int 40, .int (ig306 7453)] ig306 ag306 qg306 rg306 (by rfl) ?_
          refine ft_if mi_k142 ((ig306 7453) != 40) 95 52 [(4, .int vg301), (0, .ref 116), (1, .int x1), (2, .int x2), (3, .int x3)] [] (by rfl) (fun c => ?_) (fun c => ?_)
          ·
            have c311 : (ig306 7453).toInt ≠ (40 : Int32).toInt := kd_ne c; clear c
            have s312 : (4 * (ig306 7453)).toInt = 4 * (ig306 7453).toInt := kd_cmul 4 korm4 (orm79 fig306_7453.1) (orm80 fig306_7453.2)
            refine ft_go mi_k142 7 106 [(4, .int vg301), (0, .ref 116), (1, .int x1), (2, .int x2), (3, .int x3)] [.int x1, .int (4 * (ig306 7453)), .ref 133] ig306 ag306 qg306 rg306 (by rfl) ?_
            refine ko_iast3 mi_k142.1 (n := 160) (c := 160) (ax := (0, 0, 0, 0, 0)) (mi_k142.2 _ _ (by rfl)) (by rfl) (ksG133 _ _ _ _) (ksA133 _ _ _ _) (hGg306.I.2.1 133) rfl (orm81 fig306_7453.1 s312) (orm82 c311 fig306_7453.2 s312 korm40) ?_
            intro a313 ea313 fa313
            have hJ313 := kG_a3 hGg306 133 rfl ea313 fa313 (kE_cset (orm81 fig306_7453.1 s312) (orm226 w298 z2) (orm227 w298 z2))
            have s314 : ((4 * (ig306 7453)) + 1).toInt = (4 * (ig306 7453)).toInt + (1 : Int32).toInt := kd_add (orm84 fig306_7453.1 s312 korm1) (orm85 fig306_7453.2 s312 korm1)
            refine ft_go mi_k142 9 120 [(4, .int vg301), (0, .ref 116), (1, .int x1), (2, .int x2), (3, .int x3)] [.int x2, .int ((4 * (ig306 7453)) + 1), .ref 133] ig306 a313 qg306 rg306 (by rfl) ?_
            refine ko_iast3 mi_k142.1 (n := 160) (c := 160) (ax := (0, 0, 0, 0, 0)) (mi_k142.2 _ _ (by rfl)) (by rfl) (ksG133 _ _ _ _) (ksA133 _ _ _ _) (hJ313.I.2.1 133) rfl (orm86 fig306_7453.1 s312 s314 korm1) (orm87 c311 fig306_7453.2 s312 s314 korm40 korm1) ?_
            intro a315 ea315 fa315
            have hJ315 := kG_a3 hJ313 133 rfl ea315 fa315 (kE_cset (orm86 fig306_7453.1 s312 s314 korm1) (orm228 w298) (orm229 w298))
            have s316 : ((4 * (ig306 7453)) + 2).toInt = (4 * (ig306 7453)).toInt + (2 : Int32).toInt := kd_add (orm90 fig306_7453.1 s312 korm2) (orm91 fig306_7453.2 s312 korm2)
            refine ft_go mi_k142 9 135 [(4, .int vg301), (0, .ref 116), (1, .int x1), (2, .int x2), (3, .int x3)] [.int vg301, .int ((4 * (ig306 7453)) + 2), .ref 133] ig306 a315 qg306 rg306 (by rfl) ?_
            refine ko_iast3 mi_k142.1 (n := 160) (c := 160) (ax := (0, 0, 0, 0, 0)) (mi_k142.2 _ _ (by rfl)) (by rfl) (ksG133 _ _ _ _) (ksA133 _ _ _ _) (hJ315.I.2.1 133) rfl (orm92 fig306_7453.1 s312 s316 korm2) (orm93 c311 fig306_7453.2 s312 s316 korm40 korm2) ?_
            intro a317 ea317 fa317
            have hJ317 := kG_a3 hJ315 133 rfl ea317 fa317 (kE_cset (orm92 fig306_7453.1 s312 s316 korm2) (by have := korm1; have := korm2; have := korm40; omega) (by have := korm1; have := korm2; have := korm40; omega))
            have s318 : ((4 * (ig306 7453)) + 3).toInt = (4 * (ig306 7453)).toInt + (3 : Int32).toInt := kd_add (orm94 fig306_7453.1 s312 korm3) (orm95 fig306_7453.2 s312 korm3)
            refine ft_go mi_k142 9 149 [(4, .int vg301), (0, .ref 116), (1, .int x1), (2, .int x2), (3, .int x3)] [.int x3, .int ((4 * (ig306 7453)) + 3), .ref 133] ig306 a317 qg306 rg306 (by rfl) ?_
            refine ko_iast3 mi_k142.1 (n := 160) (c := 160) (ax := (0, 0, 0, 0, 0)) (mi_k142.2 _ _ (by rfl)) (by rfl) (ksG133 _ _ _ _) (ksA133 _ _ _ _) (hJ317.I.2.1 133) rfl (orm96 fig306_7453.1 s312 s318 korm3) (orm97 c311 fig306_7453.2 s312 s318 korm40 korm3) ?_
            intro a319 ea319 fa319
            have hJ319 := kG_a3 hJ317 133 rfl ea319 fa319 (kE_cset (orm96 fig306_7453.1 s312 s318 korm3) (orm201 z300.1 z300.2) (orm202 z300.1 z300.2))
            have s320 : ((ig306 7453) + 1).toInt = (ig306 7453).toInt + (1 : Int32).toInt := kd_add (orm98 fig306_7453.1 korm1) (orm99 fig306_7453.2 korm1)
            have hJ321 := kG_i hJ319 7453 rfl (v := ((ig306 7453) + 1)) ⟨(orm100 fig306_7453.1 s320 korm1), (orm101 c311 fig306_7453.2 s312 s320 korm40 korm1)⟩
            have hJ322 := kG_i hJ321 7452 rfl (v := ((ig306 7453) + 1)) ⟨(orm100 fig306_7453.1 s320 korm1), (orm101 c311 fig306_7453.2 s312 s320 korm40 korm1)⟩
            refine ft_go mi_k142 11 170 [(4, .int vg301), (0, .ref 116), (1, .int x1), (2, .int x2), (3, .int x3)] [.int vg301] (ku (ku ig306 7453 ((ig306 7453) + 1)) 7452 ((ig306 7453) + 1)) a319 qg306 rg306 (by rfl) ?_
            have bw323 : (kTold (i 7424) x1 x2 ∧ kFit x2 x3) := ⟨(orm230 w298 z2), (kFit_5 (orm43 w298)).mpr (orm205 z300.1 z300.2)⟩
            have bw324 : ¬ ((rGet x1 x2 (a 118, a 117, i 7426, i 7427)).toInt = x3.toInt) := (orm106 c305 u304)
            have bw325 : ¬ ((i 7453).toInt = 40) := (orm107 c311 efig306_7453 fig306_7453.2 s312 korm40)
            exact ft_ret mi_k142 (by rfl) (hP vg301 _ _ _ _ hJ322 ⟨orm102, ⟨⟨(show vg301 = (rMend (i 7424) x1 x2 x3 (a 118, a 117, i 7426, i 7427) (a 133, i 7452, i 7453)).1 from (by unfold rMend; unfold rAdd; simp only [if_pos bw323, if_neg bw324, if_neg bw325]; (try unfold rPut); first | done | rfl | (simp only [q303, sMn, sMx]; done) | (simp only [q303, sMn, sMx]; rfl))), (show a319 118 = ((rMend (i 7424) x1 x2 x3 (a 118, a 117, i 7426, i 7427) (a 133, i 7452, i 7453)).2.1).1 from (by unfold rMend; unfold rAdd; simp only [if_pos bw323, if_neg bw324, if_neg bw325]; (try unfold rPut); first | done | rfl | (simp only [fa319 118 (by decide), fa317 118 (by decide), fa315 118 (by decide), fa313 118 (by decide), q307, sMn, sMx]; done) | (simp only [fa319 118 (by decide), fa317 118 (by decide), fa315 118 (by decide), fa313 118 (by decide), q307, sMn, sMx]; rfl))), (show a319 117 = ((rMend (i 7424) x1 x2 x3 (a 118, a 117, i 7426, i 7427) (a 133, i 7452, i 7453)).2.1).2.1 from (by unfold rMend; unfold rAdd; simp only [if_pos bw323, if_neg bw324, if_neg bw325]; (try unfold rPut); first | done | rfl | (simp only [fa319 117 (by decide), fa317 117 (by decide), fa315 117 (by decide), fa313 117 (by decide), q308, sMn, sMx]; done) | (simp only [fa319 117 (by decide), fa317 117 (by decide), fa315 117 (by decide), fa313 117 (by decide), q308, sMn, sMx]; rfl))), (show ig306 7426 = ((rMend (i 7424) x1 x2 x3 (a 118, a 117, i 7426, i 7427) (a 133, i 7452, i 7453)).2.1).2.2.1 from (by unfold rMend; unfold rAdd; simp only [if_pos bw323, if_neg bw324, if_neg bw325]; (try unfold rPut); first | done | rfl | (simp only [q309, sMn, sMx]; done) | (simp only [q309, sMn, sMx]; rfl))), (show ig306 7427 = ((rMend (i 7424) x1 x2 x3 (a 118, a 117, i 7426, i 7427) (a 133, i 7452, i 7453)).2.1).2.2.2 from (by unfold rMend; unfold rAdd; simp only [if_pos bw323, if_neg bw324, if_neg bw325]; (try unfold rPut); first | done | rfl | (simp only [q310, sMn, sMx]; done) | (simp only [q310, sMn, sMx]; rfl))), (show a319 133 = ((rMend (i 7424) x1 x2 x3 (a 118, a 117, i 7426, i 7427) (a 133, i 7452, i 7453)).2.2).1 from (by unfold rMend; unfold rAdd; simp only [if_pos bw323, if_neg bw324, if_neg bw325]; (try unfold rPut); first | done | rfl | (simp only [ea319, ea317, (show ig306 7453 = i 7453 from kg306.fi 7453 rfl), ea315, q303, ea313, kg306.fa 133 rfl, sMn, sMx]; done) | (simp only [ea319, ea317, (show ig306 7453 = i 7453 from kg306.fi 7453 rfl), ea315, q303, ea313, kg306.fa 133 rfl, sMn, sMx]; rfl))), (show ((ig306 7453) + 1) = ((rMend (i 7424) x1 x2 x3 (a 118, a 117, i 7426, i 7427) (a 133, i 7452, i 7453)).2.2).2.1 from (by unfold rMend; unfold rAdd; simp only [if_pos bw323, if_neg bw324, if_neg bw325]; (try unfold rPut); first | done | rfl | (simp only [(show ig306 7453 = i 7453 from kg306.fi 7453 rfl), sMn, sMx]; done) | (simp only [(show ig306 7453 = i 7453 from kg306.fi 7453 rfl), sMn, sMx]; rfl))), (show ((ig306 7453) + 1) = ((rMend (i 7424) x1 x2 x3 (a 118, a 117, i 7426, i 7427) (a 133, i 7452, i 7453)).2.2).2.2 from (by unfold rMend; unfold rAdd; simp only [if_pos bw323, if_neg bw324, if_neg bw325]; (try unfold rPut); first | done | rfl | (simp only [(show ig306 7453 = i 7453 from kg306.fi 7453 rfl), sMn, sMx]; done) | (simp only [(show ig306 7453 = i 7453 from kg306.fi 7453 rfl), sMn, sMx]; rfl)))⟩, (kChL_cast (kChL_set4 (kChL_cast hE_chg (kg306.fa 133 rfl)) (hGg306.I.2.1 133) (d := (ig306 7453)) (orm0 fig306_7453.1) (orm113 c311 fig306_7453.2 s312 korm40) (orm108 s312) (orm109 s312 s314 korm1) (orm110 s312 s316 korm2) (orm111 s312 s318 korm3) ea313 ea315 ea317 ea319 (orm231 w298)) rfl)⟩⟩)
          ·
            have c326 : (ig306 7453).toInt = (40 : Int32).toInt := kd_neF c; clear c
            refine ft_go mi_k142 2 55 [(5, .int 0), (4, .int vg301), (0, .ref 116), (1, .int x1), (2, .int x2), (3, .int x3)] [] ig306 ag306 qg306 rg306 (by rfl) ?_
            have lp327 : ∀ (nz : Nat) (i327 : Nat → Int32) (a327 : Nat → List Int32) (q327 : Nat → List Int64) (r327 : Nat → Nat) (l5_327 : Int32), kG yw142_116_L55 ig306 ag306 qg306 rg306 i327 a327 q327 r327 → ((0 : Int) ≤ l5_327.toInt) ∧ (l5_327.toInt ≤ 156) → kShf (ag306 133) (a327 133) l5_327.toInt.toNat → ((156 - l5_327.toInt)).toNat < nz → ko 7 (mi_h142, mi_c142) P (55, [(5, .int l5_327), (4, .int vg301), (0, .ref 116), (1, .int x1), (2, .int x2), (3, .int x3)], [], (0, 0), ks i327 a327 q327 r327) := by
              intro nz
              induction nz with
              | zero =>
                intro _ _ _ _ _ _ _ _ hm
                exact absurd hm (Nat.not_lt_zero _)
              | succ nz ih327 =>
                intro i327 a327 q327 r327 l5_327 hL327 p327_0 O327_0 hm327
                refine ft_go mi_k142 2 60 [(5, .int l5_327), (4, .int vg301), (0, .ref 116), (1, .int x1), (2, .int x2), (3, .int x3)] [.int 156, .int l5_327] i327 a327 q327 r327 (by rfl) ?_
                refine ft_if mi_k142 (decide (156 ≤ l5_327)) 85 63 [(5, .int l5_327), (4, .int vg301), (0, .ref 116), (1, .int x1), (2, .int x2), (3, .int x3)] [] (by rfl) (fun c => ?_) (fun c => ?_)
                ·
                  have c328 : (156 : Int32).toInt ≤ l5_327.toInt := kd_le c; clear c
                  have hG329 := kG_call hGg306 hL327 (by decide +kernel)
                  have qs330 : a327 133 = rShf (ag306 133) := kShf_eq O327_0 (orm114 c328 p327_0.2 korm156) (hGg306.I.2.1 133) (hG329.I.2.1 133)
                  have fi327_7453 : ((0 : Int) ≤ (i327 7453).toInt) ∧ ((i327 7453).toInt ≤ 40) := hG329.I.1 7453
                  have efi327_7453 : (i327 7453).toInt = (ig306 7453).toInt := hL327.ti 7453 rfl
                  have s331 : ((i327 7453) - 1).toInt = (i327 7453).toInt - (1 : Int32).toInt := kd_sub (orm115 c326 efi327_7453 korm40 korm1) (orm116 fi327_7453.2 korm1)
                  have hJ332 := kG_i hG329 7453 rfl (v := ((i327 7453) - 1)) ⟨(orm117 c326 efi327_7453 s331 korm40 korm1), (orm118 fi327_7453.2 s331 korm1)⟩
                  have s333 : (4 * ((i327 7453) - 1)).toInt = 4 * ((i327 7453) - 1).toInt := kd_cmul 4 korm4 (orm119 fi327_7453.1 s331 korm1) (orm120 fi327_7453.2 s331 korm1)
                  refine ft_go mi_k142 13 106 [(5, .int l5_327), (4, .int vg301), (0, .ref 116), (1, .int x1), (2, .int x2), (3, .int x3)] [.int x1, .int (4 * ((i327 7453) - 1)), .ref 133] (ku i327 7453 ((i327 7453) - 1)) a327 q327 r327 (by rfl) ?_
                  refine ko_iast3 mi_k142.1 (n := 160) (c := 160) (ax := (0, 0, 0, 0, 0)) (mi_k142.2 _ _ (by rfl)) (by rfl) (ksG133 _ _ _ _) (ksA133 _ _ _ _) (hJ332.I.2.1 133) rfl (orm121 c326 efi327_7453 s331 s333 korm40 korm1) (orm122 fi327_7453.2 s331 s333 korm1) ?_
                  intro a334 ea334 fa334
                  have hJ334 := kG_a3 hJ332 133 rfl ea334 fa334 (kE_cset (orm121 c326 efi327_7453 s331 s333 korm40 korm1) (orm226 w298 z2) (orm227 w298 z2))
                  have s335 : ((4 * ((i327 7453) - 1)) + 1).toInt = (4 * ((i327 7453) - 1)).toInt + (1 : Int32).toInt := kd_add (orm123 c326 efi327_7453 s331 s333 korm40 korm1) (orm124 fi327_7453.2 s331 s333 korm1)
                  refine ft_go mi_k142 9 120 [(5, .int l5_327), (4, .int vg301), (0, .ref 116), (1, .int x1), (2, .int x2), (3, .int x3)] [.int x2, .int ((4 * ((i327 7453) - 1)) + 1), .ref 133] (ku i327 7453 ((i327 7453) - 1)) a334 q327 r327 (by rfl) ?_
                  refine ko_iast3 mi_k142.1 (n := 160) (c := 160) (ax := (0, 0, 0, 0, 0)) (mi_k142.2 _ _ (by rfl)) (by rfl) (ksG133 _ _ _ _) (ksA133 _ _ _ _) (hJ334.I.2.1 133) rfl (orm125 c326 efi327_7453 s331 s333 s335 korm40 korm1) (orm126 fi327_7453.2 s331 s333 s335 korm1) ?_
                  intro a336 ea336 fa336
                  have hJ336 := kG_a3 hJ334 133 rfl ea336 fa336 (kE_cset (orm125 c326 efi327_7453 s331 s333 s335 korm40 korm1) (orm127 c326 efi327_7453 fi327_7453.2 s331 s333 s335 korm40 korm1) (orm229 w298))
                  have s337 : ((4 * ((i327 7453) - 1)) + 2).toInt = (4 * ((i327 7453) - 1)).toInt + (2 : Int32).toInt := kd_add (orm128 c326 efi327_7453 s331 s333 korm40 korm1 korm2) (orm129 fi327_7453.2 s331 s333 korm1 korm2)
                  refine ft_go mi_k142 9 135 [(5, .int l5_327), (4, .int vg301), (0, .ref 116), (1, .int x1), (2, .int x2), (3, .int x3)] [.int vg301, .int ((4 * ((i327 7453) - 1)) + 2), .ref 133] (ku i327 7453 ((i327 7453) - 1)) a336 q327 r327 (by rfl) ?_
                  refine ko_iast3 mi_k142.1 (n := 160) (c := 160) (ax := (0, 0, 0, 0, 0)) (mi_k142.2 _ _ (by rfl)) (by rfl) (ksG133 _ _ _ _) (ksA133 _ _ _ _) (hJ336.I.2.1 133) rfl (orm130 c326 efi327_7453 s331 s333 s337 korm40 korm1 korm2) (orm131 fi327_7453.2 s331 s333 s337 korm1 korm2) ?_
                  intro a338 ea338 fa338
                  have hJ338 := kG_a3 hJ336 133 rfl ea338 fa338 (kE_cset (orm130 c326 efi327_7453 s331 s333 s337 korm40 korm1 korm2) (orm132 c326 efi327_7453 fi327_7453.2 s331 s333 s337 korm40 korm1 korm2) (orm133 c326 efi327_7453 fi327_7453.2 s331 s333 s337 korm40 korm1 korm2))
                  have s339 : ((4 * ((i327 7453) - 1)) + 3).toInt = (4 * ((i327 7453) - 1)).toInt + (3 : Int32).toInt := kd_add (orm134 c326 efi327_7453 s331 s333 korm40 korm1 korm3) (orm135 fi327_7453.2 s331 s333 korm1 korm3)
                  refine ft_go mi_k142 9 149 [(5, .int l5_327), (4, .int vg301), (0, .ref 116), (1, .int x1), (2, .int x2), (3, .int x3)] [.int x3, .int ((4 * ((i327 7453) - 1)) + 3), .ref 133] (ku i327 7453 ((i327 7453) - 1)) a338 q327 r327 (by rfl) ?_
                  refine ko_iast3 mi_k142.1 (n := 160) (c := 160) (ax := (0, 0, 0, 0, 0)) (mi_k142.2 _ _ (by rfl)) (by rfl) (ksG133 _ _ _ _) (ksA133 _ _ _ _) (hJ338.I.2.1 133) rfl (orm136 c326 efi327_7453 s331 s333 s339 korm40 korm1 korm3) (orm137 fi327_7453.2 s331 s333 s339 korm1 korm3) ?_
                  intro a340 ea340 fa340
                  have hJ340 := kG_a3 hJ338 133 rfl ea340 fa340 (kE_cset (orm136 c326 efi327_7453 s331 s333 s339 korm40 korm1 korm3) (orm138 c326 efi327_7453 fi327_7453.2 s331 s333 s339 korm40 korm1 korm3) (orm139 c326 efi327_7453 fi327_7453.2 s331 s333 s339 korm40 korm1 korm3))
                  have s341 : (((i327 7453) - 1) + 1).toInt = ((i327 7453) - 1).toInt + (1 : Int32).toInt := kd_add (orm140 fi327_7453.1 s331 korm1) (orm141 fi327_7453.2 s331 s333 korm1)
                  have hJ342 := kG_i hJ340 7453 rfl (v := (((i327 7453) - 1) + 1)) ⟨(orm142 fi327_7453.1 s331 s341 korm1), (orm143 fi327_7453.2 s331 s333 s341 korm1)⟩
                  have hJ343 := kG_i hJ342 7452 rfl (v := (((i327 7453) - 1) + 1)) ⟨(orm142 fi327_7453.1 s331 s341 korm1), (orm143 fi327_7453.2 s331 s333 s341 korm1)⟩
                  refine ft_go mi_k142 11 170 [(5, .int l5_327), (4, .int vg301), (0, .ref 116), (1, .int x1), (2, .int x2), (3, .int x3)] [.int vg301] (ku (ku (ku i327 7453 ((i327 7453) - 1)) 7453 (((i327 7453) - 1) + 1)) 7452 (((i327 7453) - 1) + 1)) a340 q327 r327 (by rfl) ?_
                  have bw344 : (kTold (i 7424) x1 x2 ∧ kFit x2 x3) := ⟨(orm230 w298 z2), (kFit_5 (orm43 w298)).mpr (orm205 z300.1 z300.2)⟩
                  have bw345 : ¬ ((rGet x1 x2 (a 118, a 117, i 7426, i 7427)).toInt = x3.toInt) := (orm106 c305 u304)
                  have bw346 : (i 7453).toInt = 40 := (orm144 c326 efig306_7453 fi_7453.2 korm40)
                  exact ft_ret mi_k142 (by rfl) (hP vg301 _ _ _ _ hJ343 ⟨orm102, ⟨⟨(show vg301 = (rMend (i 7424) x1 x2 x3 (a 118, a 117, i 7426, i 7427) (a 133, i 7452, i 7453)).1 from (by unfold rMend; unfold rAdd; simp only [if_pos bw344, if_neg bw345, if_pos bw346]; (try unfold rPut); first | done | rfl | (simp only [q303, sMn, sMx]; done) | (simp only [q303, sMn, sMx]; rfl))), (show a340 118 = ((rMend (i 7424) x1 x2 x3 (a 118, a 117, i 7426, i 7427) (a 133, i 7452, i 7453)).2.1).1 from (by unfold rMend; unfold rAdd; simp only [if_pos bw344, if_neg bw345, if_pos bw346]; (try unfold rPut); first | done | rfl | (simp only [fa340 118 (by decide), fa338 118 (by decide), fa336 118 (by decide), fa334 118 (by decide), hL327.fa 118 rfl, q307, sMn, sMx]; done) | (simp only [fa340 118 (by decide), fa338 118 (by decide), fa336 118 (by decide), fa334 118 (by decide), hL327.fa 118 rfl, q307, sMn, sMx]; rfl))), (show a340 117 = ((rMend (i 7424) x1 x2 x3 (a 118, a 117, i 7426, i 7427) (a 133, i 7452, i 7453)).2.1).2.1 from (by unfold rMend; unfold rAdd; simp only [if_pos bw344, if_neg bw345, if_pos bw346]; (try unfold rPut); first | done | rfl | (simp only [fa340 117 (by decide), fa338 117 (by decide), fa336 117 (by decide), fa334 117 (by decide), hL327.fa 117 rfl, q308, sMn, sMx]; done) | (simp only [fa340 117 (by decide), fa338 117 (by decide), fa336 117 (by decide), fa334 117 (by decide), hL327.fa 117 rfl, q308, sMn, sMx]; rfl))), (show i327 7426 = ((rMend (i 7424) x1 x2 x3 (a 118, a 117, i 7426, i 7427) (a 133, i 7452, i 7453)).2.1).2.2.1 from (by unfold rMend; unfold rAdd; simp only [if_pos bw344, if_neg bw345, if_pos bw346]; (try unfold rPut); first | done | rfl | (simp only [(show i327 7426 = ig306 7426 from hL327.fi 7426 rfl), q309, sMn, sMx]; done) | (simp only [(show i327 7426 = ig306 7426 from hL327.fi 7426 rfl), q309, sMn, sMx]; rfl))), (show i327 7427 = ((rMend (i 7424) x1 x2 x3 (a 118, a 117, i 7426, i 7427) (a 133, i 7452, i 7453)).2.1).2.2.2 from (by unfold rMend; unfold rAdd; simp only [if_pos bw344, if_neg bw345, if_pos bw346]; (try unfold rPut); first | done | rfl | (simp only [(show i327 7427 = ig306 7427 from hL327.fi 7427 rfl), q310, sMn, sMx]; done) | (simp only [(show i327 7427 = ig306 7427 from hL327.fi 7427 rfl), q310, sMn, sMx]; rfl))), (show a340 133 = ((rMend (i 7424) x1 x2 x3 (a 118, a 117, i 7426, i 7427) (a 133, i 7452, i 7453)).2.2).1 from (by unfold rMend; unfold rAdd; simp only [if_pos bw344, if_neg bw345, if_pos bw346]; (try unfold rPut); first | done | rfl | (simp only [ea340, ea338, (show i327 7453 = ig306 7453 from hL327.fi 7453 rfl), (show ig306 7453 = i 7453 from kg306.fi 7453 rfl), ea336, q303, ea334, qs330, kg306.fa 133 rfl, sMn, sMx]; done) | (simp only [ea340, ea338, (show i327 7453 = ig306 7453 from hL327.fi 7453 rfl), (show ig306 7453 = i 7453 from kg306.fi 7453 rfl), ea336, q303, ea334, qs330, kg306.fa 133 rfl, sMn, sMx]; rfl))), (show (((i327 7453) - 1) + 1) = ((rMend (i 7424) x1 x2 x3 (a 118, a 117, i 7426, i 7427) (a 133, i 7452, i 7453)).2.2).2.1 from (by unfold rMend; unfold rAdd; simp only [if_pos bw344, if_neg bw345, if_pos bw346]; (try unfold rPut); first | done | rfl | (simp only [(show i327 7453 = ig306 7453 from hL327.fi 7453 rfl), (show ig306 7453 = i 7453 from kg306.fi 7453 rfl), sMn, sMx]; done) | (simp only [(show i327 7453 = ig306 7453 from hL327.fi 7453 rfl), (show ig306 7453 = i 7453 from kg306.fi 7453 rfl), sMn, sMx]; rfl))), (show (((i327 7453) - 1) + 1) = ((rMend (i 7424) x1 x2 x3 (a 118, a 117, i 7426, i 7427) (a 133, i 7452, i 7453)).2.2).2.2 from (by unfold rMend; unfold rAdd; simp only [if_pos bw344, if_neg bw345, if_pos bw346]; (try unfold rPut); first | done | rfl | (simp only [(show i327 7453 = ig306 7453 from hL327.fi 7453 rfl), (show ig306 7453 = i 7453 from kg306.fi 7453 rfl), sMn, sMx]; done) | (simp only [(show i327 7453 = ig306 7453 from hL327.fi 7453 rfl), (show ig306 7453 = i 7453 from kg306.fi 7453 rfl), sMn, sMx]; rfl)))⟩, (kChL_cast (kChL_set4 (kChL_cast (kShf_end O327_0 (orm114 c328 p327_0.2 korm156) (hL327.I.2.1 133) (kChL_cast hE_chg (kg306.fa 133 rfl))) rfl) (hJ332.I.2.1 133) (d := ((i327 7453) - 1)) (orm117 c326 efi327_7453 s331 korm40 korm1) (orm145 fi327_7453.2 s331 s333 korm1) (orm108 s333) (orm109 s333 s335 korm1) (orm110 s333 s337 korm2) (orm111 s333 s339 korm3) ea334 ea336 ea338 ea340 (orm231 w298)) rfl)⟩⟩)
                ·
                  have c347 : l5_327.toInt < (156 : Int32).toInt := kd_leF c; clear c
                  have s348 : (l5_327 + 4).toInt = l5_327.toInt + (4 : Int32).toInt := kd_add (orm146 p327_0.1 korm4) (orm147 p327_0.2 korm4)
                  refine ft_go mi_k142 8 77 [(5, .int l5_327), (4, .int vg301), (0, .ref 116), (1, .int x1), (2, .int x2), (3, .int x3)] [.int (l5_327 + 4), .ref 133, .int l5_327, .ref 133] i327 a327 q327 r327 (by rfl) ?_
                  refine ko_iald3 mi_k142.1 (n := 160) (c := 160) (ax := (0, 0, 0, 0, 0)) (mi_k142.2 _ _ (by rfl)) (by rfl) (ksG133 _ _ _ _) (hL327.I.2.1 133) rfl (orm148 p327_0.1 s348 korm4) (orm149 c347 s348 korm156 korm4) ?_
                  have r349 : ((((l5_327 + 4).toInt % 4) = 0 → (0 : Int) ≤ ((a327 133).getD (l5_327 + 4).toNatClampNeg 0).toInt ∧ ((a327 133).getD (l5_327 + 4).toNatClampNeg 0).toInt ≤ 7)) ∧ ((((l5_327 + 4).toInt % 4) = 1 → (0 : Int) ≤ ((a327 133).getD (l5_327 + 4).toNatClampNeg 0).toInt ∧ ((a327 133).getD (l5_327 + 4).toNatClampNeg 0).toInt ≤ 6)) := kE_ccond hL327.I (j := (l5_327 + 4)) (orm148 p327_0.1 s348 korm4)
                  refine ko_iast3 mi_k142.1 (n := 160) (c := 160) (ax := (0, 0, 0, 0, 0)) (mi_k142.2 _ _ (by rfl)) (by rfl) (ksG133 _ _ _ _) (ksA133 _ _ _ _) (hL327.I.2.1 133) rfl (orm0 p327_0.1) (orm150 p327_0.2) ?_
                  intro a350 ea350 fa350
                  have hJ350 := kG_a3 hL327 133 rfl ea350 fa350 (kE_cset (orm0 p327_0.1) (by have := korm4; have := korm40; have := korm156; omega) (by have := korm4; have := korm40; have := korm156; omega))
                  have s351 : (l5_327 + 1).toInt = l5_327.toInt + (1 : Int32).toInt := kd_add (orm98 p327_0.1 korm1) (orm151 p327_0.2 korm1)
                  refine ft_go mi_k142 2 55 [(5, .int (l5_327 + 1)), (4, .int vg301), (0, .ref 116), (1, .int x1), (2, .int x2), (3, .int x3)] [] i327 a350 q327 r327 (by rfl) ?_
                  exact ih327 _ _ _ _ _ hJ350 (orm152 c347 p327_0.1 s351 korm156 korm1) (kShf_step O327_0 (hL327.I.2.1 133) (orm0 p327_0.1) (orm153 c347 korm156) (orm154 s348 korm4) (orm155 s351 korm1) ea350 rfl) (kj_meas (orm156 s351 korm1) (orm157 c347 korm156) hm327)
            exact lp327 _ _ _ _ _ _ (kG_self _ hGg306.I hGg306.R) (orm158 korm0) (kShf_start rfl kn0) (Nat.lt_succ_self _)
        ·
          have c352 : vg301.toInt = x3.toInt := kd_neF c; clear c
          refine ft_go mi_k142 1 35 [(4, .int vg301), (0, .ref 116), (1, .int x1), (2, .int x2), (3, .int x3)] [.int vg301] i a q r (by rfl) ?_
          have bw353 : (kTold (i 7424) x1 x2 ∧ kFit x2 x3) := ⟨(orm230 w298 z2), (kFit_5 (orm43 w298)).mpr (orm205 z300.1 z300.2)⟩
          have bw354 : (rGet x1 x2 (a 118, a 117, i 7426, i 7427)).toInt = x3.toInt := (orm160 c352 u304)
          exact ft_ret mi_k142 (by rfl) (hP vg301 _ _ _ _ hG ⟨(orm159 hp0), ⟨⟨(show vg301 = (rMend (i 7424) x1 x2 x3 (a 118, a 117, i 7426, i 7427) (a 133, i 7452, i 7453)).1 from (by unfold rMend; simp only [if_pos bw353, if_pos bw354]; first | done | rfl | (simp only [q303, sMn, sMx]; done) | (simp only [q303, sMn, sMx]; rfl))), (show a 118 = ((rMend (i 7424) x1 x2 x3 (a 118, a 117, i 7426, i 7427) (a 133, i 7452, i 7453)).2.1).1 from (by unfold rMend; simp only [if_pos bw353, if_pos bw354]; first | done | rfl | (simp only [sMn, sMx]; done) | (simp only [sMn, sMx]; rfl))), (show a 117 = ((rMend (i 7424) x1 x2 x3 (a 118, a 117, i 7426, i 7427) (a 133, i 7452, i 7453)).2.1).2.1 from (by unfold rMend; simp only [if_pos bw353, if_pos bw354]; first | done | rfl | (simp only [sMn, sMx]; done) | (simp only [sMn, sMx]; rfl))), (show i 7426 = ((rMend (i 7424) x1 x2 x3 (a 118, a 117, i 7426, i 7427) (a 133, i 7452, i 7453)).2.1).2.2.1 from (by unfold rMend; simp only [if_pos bw353, if_pos bw354]; first | done | rfl | (simp only [sMn, sMx]; done) | (simp only [sMn, sMx]; rfl))), (show i 7427 = ((rMend (i 7424) x1 x2 x3 (a 118, a 117, i 7426, i 7427) (a 133, i 7452, i 7453)).2.1).2.2.2 from (by unfold rMend; simp only [if_pos bw353, if_pos bw354]; first | done | rfl | (simp only [sMn, sMx]; done) | (simp only [sMn, sMx]; rfl))), (show a 133 = ((rMend (i 7424) x1 x2 x3 (a 118, a 117, i 7426, i 7427) (a 133, i 7452, i 7453)).2.2).1 from (by unfold rMend; simp only [if_pos bw353, if_pos bw354]; first | done | rfl | (simp only [sMn, sMx]; done) | (simp only [sMn, sMx]; rfl))), (show i 7452 = ((rMend (i 7424) x1 x2 x3 (a 118, a 117, i 7426, i 7427) (a 133, i 7452, i 7453)).2.2).2.1 from (by unfold rMend; simp only [if_pos bw353, if_pos bw354]; first | done | rfl | (simp only [sMn, sMx]; done) | (simp only [sMn, sMx]; rfl))), (show i 7453 = ((rMend (i 7424) x1 x2 x3 (a 118, a 117, i 7426, i 7427) (a 133, i 7452, i 7453)).2.2).2.2 from (by unfold rMend; simp only [if_pos bw353, if_pos bw354]; first | done | rfl | (simp only [sMn, sMx]; done) | (simp only [sMn, sMx]; rfl)))⟩, (kChL_cast hE_chg rfl)⟩⟩)
      ·
        subst eg299
        have z355 : ¬ (((0 : Int) ≤ x3.toInt) ∧ (x3.toInt ≤ 1)) := hg299
        refine ft_go mi_k142 2 18 [(0, .ref 116), (1, .int x1), (2, .int x2), (3, .int x3)] [.int (-1)] i a q r (by rfl) ?_
        have bw356 : ¬ (kTold (i 7424) x1 x2 ∧ kFit x2 x3) := (fun z => absurd ((kFit_5 (orm43 w298)).mp z.2) (orm207 z355))
        exact ft_ret mi_k142 (by rfl) (hP (-1) _ _ _ _ hG ⟨(orm159 hp0), ⟨⟨(show ((-1) : Int32) = (rMend (i 7424) x1 x2 x3 (a 118, a 117, i 7426, i 7427) (a 133, i 7452, i 7453)).1 from (by unfold rMend; simp only [if_neg bw356]; first | done | rfl | (simp only [sMn, sMx]; done) | (simp only [sMn, sMx]; rfl))), (show a 118 = ((rMend (i 7424) x1 x2 x3 (a 118, a 117, i 7426, i 7427) (a 133, i 7452, i 7453)).2.1).1 from (by unfold rMend; simp only [if_neg bw356]; first | done | rfl | (simp only [sMn, sMx]; done) | (simp only [sMn, sMx]; rfl))), (show a 117 = ((rMend (i 7424) x1 x2 x3 (a 118, a 117, i 7426, i 7427) (a 133, i 7452, i 7453)).2.1).2.1 from (by unfold rMend; simp only [if_neg bw356]; first | done | rfl | (simp only [sMn, sMx]; done) | (simp only [sMn, sMx]; rfl))), (show i 7426 = ((rMend (i 7424) x1 x2 x3 (a 118, a 117, i 7426, i 7427) (a 133, i 7452, i 7453)).2.1).2.2.1 from (by unfold rMend; simp only [if_neg bw356]; first | done | rfl | (simp only [sMn, sMx]; done) | (simp only [sMn, sMx]; rfl))), (show i 7427 = ((rMend (i 7424) x1 x2 x3 (a 118, a 117, i 7426, i 7427) (a 133, i 7452, i 7453)).2.1).2.2.2 from (by unfold rMend; simp only [if_neg bw356]; first | done | rfl | (simp only [sMn, sMx]; done) | (simp only [sMn, sMx]; rfl))), (show a 133 = ((rMend (i 7424) x1 x2 x3 (a 118, a 117, i 7426, i 7427) (a 133, i 7452, i 7453)).2.2).1 from (by unfold rMend; simp only [if_neg bw356]; first | done | rfl | (simp only [sMn, sMx]; done) | (simp only [sMn, sMx]; rfl))), (show i 7452 = ((rMend (i 7424) x1 x2 x3 (a 118, a 117, i 7426, i 7427) (a 133, i 7452, i 7453)).2.2).2.1 from (by unfold rMend; simp only [if_neg bw356]; first | done | rfl | (simp only [sMn, sMx]; done) | (simp only [sMn, sMx]; rfl))), (show i 7453 = ((rMend (i 7424) x1 x2 x3 (a 118, a 117, i 7426, i 7427) (a 133, i 7452, i 7453)).2.2).2.2 from (by unfold rMend; simp only [if_neg bw356]; first | done | rfl | (simp only [sMn, sMx]; done) | (simp only [sMn, sMx]; rfl)))⟩, (kChL_cast hE_chg rfl)⟩⟩)
    by_cases w357 : x2.toInt = 6
    ·
      refine ko_eq (x1 := (11, [(0, .ref 116), (1, .int x1), (2, .int x2), (3, .int x3)], [.int x3, .int 6], (0, 0), ks i a q r)) (by rw [(kj_eq w357 (by decide) : x2 = 6)]) ?_
      refine ko_callPI mi_k142.1 (pc := 11) (ls := [(0, .ref 116), (1, .int x1), (2, .int x2), (3, .int x3)]) (st := [.int x3, .int 6]) (h := ks i a q r) (i := (.invokestatic 144, 3, 139, 0, 9, 0, 388)) (mi_k142.2 _ _ (by rfl)) (ft_invS mi_pq139 (by rfl)) (cy := mi_c139) mi_pq139 rfl (ke139_l06 hG.I hG.R x3) (by decide) ?_
      intro vg358 hg358
      rcases hg358 with ⟨eg358, hg358⟩ | ⟨eg358, hg358⟩
      ·
        subst eg358
        have z359 : ((0 : Int) ≤ x3.toInt) ∧ (x3.toInt ≤ 99) := hg358
        refine ft_go mi_k142 4 22 [(0, .ref 116), (1, .int x1), (2, .int x2), (3, .int x3)] [.int x2, .int x1, .ref 116] i a q r (by rfl) ?_
        refine ko_callPI mi_k142.1 (pc := 22) (ls := [(0, .ref 116), (1, .int x1), (2, .int x2), (3, .int x3)]) (st := [.int x2, .int x1, .ref 116]) (h := ks i a q r) (i := (.invokevirtual 147, 3, 140, 0, 9, 0, 389)) (mi_k142.2 _ _ (by rfl)) (ft_invS mi_pq140 (by rfl)) (cy := mi_c140) mi_pq140 rfl (ke140_116 hG.I hG.R x1 x2 (orm234 w357 z2) (orm235 w357)) (by decide) ?_
        intro vg360 hg360
        obtain ⟨hg360, og360⟩ := hg360
        have z361 : ((x2.toInt = 4) → (((1 : Int) ≤ vg360.toInt) ∧ (vg360.toInt ≤ 5))) := hg360
        have q362 : vg360 = rGet x1 x2 (a 118, a 117, i 7426, i 7427) := og360
        have u363 : vg360.toInt = (rGet x1 x2 (a 118, a 117, i 7426, i 7427)).toInt := congrArg Int32.toInt q362
        refine ft_go mi_k142 3 30 [(4, .int vg360), (0, .ref 116), (1, .int x1), (2, .int x2), (3, .int x3)] [.int x3, .int vg360] i a q r (by rfl) ?_
        refine ft_if mi_k142 (vg360 != x3) 36 33 [(4, .int vg360), (0, .ref 116), (1, .int x1), (2, .int x2), (3, .int x3)] [] (by rfl) (fun c => ?_) (fun c => ?_)
        ·
          have c364 : vg360.toInt ≠ x3.toInt := kd_ne c; clear c
          refine ft_go mi_k142 4 40 [(4, .int vg360), (0, .ref 116), (1, .int x1), (2, .int x2), (3, .int x3)] [.int x3, .int x2, .int x1, .ref 116] i a q r (by rfl) ?_
          refine ko_callN mi_k142.1 (pc := 40) (ls := [(4, .int vg360), (0, .ref 116), (1, .int x1), (2, .int x2), (3, .int x3)]) (st := [.int x3, .int x2, .int x1, .ref 116]) (h := ks i a q r) (i := (.invokevirtual 150, 3, 141, 0, 9, 0, 390)) (mi_k142.2 _ _ (by rfl)) (ft_invS mi_pq141 (by rfl)) (cy := mi_c141) mi_pq141 rfl (ke141_116 hG.I hG.R x1 x2 x3 (orm234 w357 z2) (orm235 w357) (orm46 w357)) (by decide) ?_
          intro ig365 ag365 qg365 rg365 kg365 hg365
          have hGg365 := kG_call hG kg365 (by decide +kernel)
          obtain ⟨hg365, og365⟩ := hg365
          have q366 : ag365 118 = (rSet x1 x2 x3 (a 118, a 117, i 7426, i 7427)).1 := og365.1
          have q367 : ag365 117 = (rSet x1 x2 x3 (a 118, a 117, i 7426, i 7427)).2.1 := og365.2.1
          have q368 : ig365 7426 = (rSet x1 x2 x3 (a 118, a 117, i 7426, i 7427)).2.2.1 := og365.2.2.1
          have q369 : ig365 7427 = (rSet x1 x2 x3 (a 118, a 117, i 7426, i 7427)).2.2.2 := og365.2.2.2
          have fig365_7453 : ((0 : Int) ≤ (ig365 7453).toInt) ∧ ((ig365 7453).toInt ≤ 40) := hGg365.I.1 7453
          have efig365_7453 : (ig365 7453).toInt = (i 7453).toInt := kg365.ti 7453 rfl
          refine ft_go mi_k142 3 49 [(4, .int vg360), (0, .ref 116), (1, .int x1), (2, .int x2), (3, .int x3)] [.int 40, .int (ig365 7453)] ig365 ag365 qg365 rg365 (by rfl) ?_
          refine ft_if mi_k142 ((ig365 7453) != 40) 95 52 [(4, .int vg360), (0, .ref 116), (1, .int x1), (2, .int x2), (3, .int x3)] [] (by rfl) (fun c => ?_) (fun c => ?_)
          ·
            have c370 : (ig365 7453).toInt ≠ (40 : Int32).toInt := kd_ne c; clear c
            have s371 : (4 * (ig365 7453)).toInt = 4 * (ig365 7453).toInt := kd_cmul 4 korm4 (orm79 fig365_7453.1) (orm80 fig365_7453.2)
            refine ft_go mi_k142 7 106 [(4, .int vg360), (0, .ref 116), (1, .int x1), (2, .int x2), (3, .int x3)] [.int x1, .int (4 * (ig365 7453)), .ref 133] ig365 ag365 qg365 rg365 (by rfl) ?_
            refine ko_iast3 mi_k142.1 (n := 160) (c := 160) (ax := (0, 0, 0, 0, 0)) (mi_k142.2 _ _ (by rfl)) (by rfl) (ksG133 _ _ _ _) (ksA133 _ _ _ _) (hGg365.I.2.1 133) rfl (orm81 fig365_7453.1 s371) (orm82 c370 fig365_7453.2 s371 korm40) ?_
            intro a372 ea372 fa372
            have hJ372 := kG_a3 hGg365 133 rfl ea372 fa372 (kE_cset (orm81 fig365_7453.1 s371) (orm236 w357 z2) (orm237 w357 z2))
            have s373 : ((4 * (ig365 7453)) + 1).toInt = (4 * (ig365 7453)).toInt + (1 : Int32).toInt := kd_add (orm84 fig365_7453.1 s371 korm1) (orm85 fig365_7453.2 s371 korm1)
            refine ft_go mi_k142 9 120 [(4, .int vg360), (0, .ref 116), (1, .int x1), (2, .int x2), (3, .int x3)] [.int x2, .int ((4 * (ig365 7453)) + 1), .ref 133] ig365 a372 qg365 rg365 (by rfl) ?_
            refine ko_iast3 mi_k142.1 (n := 160) (c := 160) (ax := (0, 0, 0, 0, 0)) (mi_k142.2 _ _ (by rfl)) (by rfl) (ksG133 _ _ _ _) (ksA133 _ _ _ _) (hJ372.I.2.1 133) rfl (orm86 fig365_7453.1 s371 s373 korm1) (orm87 c370 fig365_7453.2 s371 s373 korm40 korm1) ?_
            intro a374 ea374 fa374
            have hJ374 := kG_a3 hJ372 133 rfl ea374 fa374 (kE_cset (orm86 fig365_7453.1 s371 s373 korm1) (orm238 w357) (orm239 w357))
            have s375 : ((4 * (ig365 7453)) + 2).toInt = (4 * (ig365 7453)).toInt + (2 : Int32).toInt := kd_add (orm90 fig365_7453.1 s371 korm2) (orm91 fig365_7453.2 s371 korm2)
            refine ft_go mi_k142 9 135 [(4, .int vg360), (0, .ref 116), (1, .int x1), (2, .int x2), (3, .int x3)] [.int vg360, .int ((4 * (ig365 7453)) + 2), .ref 133] ig365 a374 qg365 rg365 (by rfl) ?_
            refine ko_iast3 mi_k142.1 (n := 160) (c := 160) (ax := (0, 0, 0, 0, 0)) (mi_k142.2 _ _ (by rfl)) (by rfl) (ksG133 _ _ _ _) (ksA133 _ _ _ _) (hJ374.I.2.1 133) rfl (orm92 fig365_7453.1 s371 s375 korm2) (orm93 c370 fig365_7453.2 s371 s375 korm40 korm2) ?_
            intro a376 ea376 fa376
            have hJ376 := kG_a3 hJ374 133 rfl ea376 fa376 (kE_cset (orm92 fig365_7453.1 s371 s375 korm2) (by have := korm1; have := korm2; have := korm40; omega) (by have := korm1; have := korm2; have := korm40; omega))
            have s377 : ((4 * (ig365 7453)) + 3).toInt = (4 * (ig365 7453)).toInt + (3 : Int32).toInt := kd_add (orm94 fig365_7453.1 s371 korm3) (orm95 fig365_7453.2 s371 korm3)
            refine ft_go mi_k142 9 149 [(4, .int vg360), (0, .ref 116), (1, .int x1), (2, .int x2), (3, .int x3)] [.int x3, .int ((4 * (ig365 7453)) + 3), .ref 133] ig365 a376 qg365 rg365 (by rfl) ?_
            refine ko_iast3 mi_k142.1 (n := 160) (c := 160) (ax := (0, 0, 0, 0, 0)) (mi_k142.2 _ _ (by rfl)) (by rfl) (ksG133 _ _ _ _) (ksA133 _ _ _ _) (hJ376.I.2.1 133) rfl (orm96 fig365_7453.1 s371 s377 korm3) (orm97 c370 fig365_7453.2 s371 s377 korm40 korm3) ?_
            intro a378 ea378 fa378
            have hJ378 := kG_a3 hJ376 133 rfl ea378 fa378 (kE_cset (orm96 fig365_7453.1 s371 s377 korm3) (by have := korm1; have := korm2; have := korm3; have := korm40; omega) (by have := korm1; have := korm2; have := korm3; have := korm40; omega))
            have s379 : ((ig365 7453) + 1).toInt = (ig365 7453).toInt + (1 : Int32).toInt := kd_add (orm98 fig365_7453.1 korm1) (orm99 fig365_7453.2 korm1)
            have hJ380 := kG_i hJ378 7453 rfl (v := ((ig365 7453) + 1)) ⟨(orm100 fig365_7453.1 s379 korm1), (orm101 c370 fig365_7453.2 s371 s379 korm40 korm1)⟩
            have hJ381 := kG_i hJ380 7452 rfl (v := ((ig365 7453) + 1)) ⟨(orm100 fig365_7453.1 s379 korm1), (orm101 c370 fig365_7453.2 s371 s379 korm40 korm1)⟩
            refine ft_go mi_k142 11 170 [(4, .int vg360), (0, .ref 116), (1, .int x1), (2, .int x2), (3, .int x3)] [.int vg360] (ku (ku ig365 7453 ((ig365 7453) + 1)) 7452 ((ig365 7453) + 1)) a378 qg365 rg365 (by rfl) ?_
            have bw382 : (kTold (i 7424) x1 x2 ∧ kFit x2 x3) := ⟨(orm240 w357 z2), (kFit_6 (orm241 w357)).mpr (orm242 z359.1 z359.2)⟩
            have bw383 : ¬ ((rGet x1 x2 (a 118, a 117, i 7426, i 7427)).toInt = x3.toInt) := (orm106 c364 u363)
            have bw384 : ¬ ((i 7453).toInt = 40) := (orm107 c370 efig365_7453 fig365_7453.2 s371 korm40)
            exact ft_ret mi_k142 (by rfl) (hP vg360 _ _ _ _ hJ381 ⟨orm102, ⟨⟨(show vg360 = (rMend (i 7424) x1 x2 x3 (a 118, a 117, i 7426, i 7427) (a 133, i 7452, i 7453)).1 from (by unfold rMend; unfold rAdd; simp only [if_pos bw382, if_neg bw383, if_neg bw384]; (try unfold rPut); first | done | rfl | (simp only [q362, sMn, sMx]; done) | (simp only [q362, sMn, sMx]; rfl))), (show a378 118 = ((rMend (i 7424) x1 x2 x3 (a 118, a 117, i 7426, i 7427) (a 133, i 7452, i 7453)).2.1).1 from (by unfold rMend; unfold rAdd; simp only [if_pos bw382, if_neg bw383, if_neg bw384]; (try unfold rPut); first | done | rfl | (simp only [fa378 118 (by decide), fa376 118 (by decide), fa374 118 (by decide), fa372 118 (by decide), q366, sMn, sMx]; done) | (simp only [fa378 118 (by decide), fa376 118 (by decide), fa374 118 (by decide), fa372 118 (by decide), q366, sMn, sMx]; rfl))), (show a378 117 = ((rMend (i 7424) x1 x2 x3 (a 118, a 117, i 7426, i 7427) (a 133, i 7452, i 7453)).2.1).2.1 from (by unfold rMend; unfold rAdd; simp only [if_pos bw382, if_neg bw383, if_neg bw384]; (try unfold rPut); first | done | rfl | (simp only [fa378 117 (by decide), fa376 117 (by decide), fa374 117 (by decide), fa372 117 (by decide), q367, sMn, sMx]; done) | (simp only [fa378 117 (by decide), fa376 117 (by decide), fa374 117 (by decide), fa372 117 (by decide), q367, sMn, sMx]; rfl))), (show ig365 7426 = ((rMend (i 7424) x1 x2 x3 (a 118, a 117, i 7426, i 7427) (a 133, i 7452, i 7453)).2.1).2.2.1 from (by unfold rMend; unfold rAdd; simp only [if_pos bw382, if_neg bw383, if_neg bw384]; (try unfold rPut); first | done | rfl | (simp only [q368, sMn, sMx]; done) | (simp only [q368, sMn, sMx]; rfl))), (show ig365 7427 = ((rMend (i 7424) x1 x2 x3 (a 118, a 117, i 7426, i 7427) (a 133, i 7452, i 7453)).2.1).2.2.2 from (by unfold rMend; unfold rAdd; simp only [if_pos bw382, if_neg bw383, if_neg bw384]; (try unfold rPut); first | done | rfl | (simp only [q369, sMn, sMx]; done) | (simp only [q369, sMn, sMx]; rfl))), (show a378 133 = ((rMend (i 7424) x1 x2 x3 (a 118, a 117, i 7426, i 7427) (a 133, i 7452, i 7453)).2.2).1 from (by unfold rMend; unfold rAdd; simp only [if_pos bw382, if_neg bw383, if_neg bw384]; (try unfold rPut); first | done | rfl | (simp only [ea378, ea376, (show ig365 7453 = i 7453 from kg365.fi 7453 rfl), ea374, q362, ea372, kg365.fa 133 rfl, sMn, sMx]; done) | (simp only [ea378, ea376, (show ig365 7453 = i 7453 from kg365.fi 7453 rfl), ea374, q362, ea372, kg365.fa 133 rfl, sMn, sMx]; rfl))), (show ((ig365 7453) + 1) = ((rMend (i 7424) x1 x2 x3 (a 118, a 117, i 7426, i 7427) (a 133, i 7452, i 7453)).2.2).2.1 from (by unfold rMend; unfold rAdd; simp only [if_pos bw382, if_neg bw383, if_neg bw384]; (try unfold rPut); first | done | rfl | (simp only [(show ig365 7453 = i 7453 from kg365.fi 7453 rfl), sMn, sMx]; done) | (simp only [(show ig365 7453 = i 7453 from kg365.fi 7453 rfl), sMn, sMx]; rfl))), (show ((ig365 7453) + 1) = ((rMend (i 7424) x1 x2 x3 (a 118, a 117, i 7426, i 7427) (a 133, i 7452, i 7453)).2.2).2.2 from (by unfold rMend; unfold rAdd; simp only [if_pos bw382, if_neg bw383, if_neg bw384]; (try unfold rPut); first | done | rfl | (simp only [(show ig365 7453 = i 7453 from kg365.fi 7453 rfl), sMn, sMx]; done) | (simp only [(show ig365 7453 = i 7453 from kg365.fi 7453 rfl), sMn, sMx]; rfl)))⟩, (kChL_cast (kChL_set4 (kChL_cast hE_chg (kg365.fa 133 rfl)) (hGg365.I.2.1 133) (d := (ig365 7453)) (orm0 fig365_7453.1) (orm113 c370 fig365_7453.2 s371 korm40) (orm108 s371) (orm109 s371 s373 korm1) (orm110 s371 s375 korm2) (orm111 s371 s377 korm3) ea372 ea374 ea376 ea378 (orm243 w357)) rfl)⟩⟩)
          ·
            have c385 : (ig365 7453).toInt = (40 : Int32).toInt := kd_neF c; clear c
            refine ft_go mi_k142 2 55 [(5, .int 0), (4, .int vg360), (0, .ref 116), (1, .int x1), (2, .int x2), (3, .int x3)] [] ig365 ag365 qg365 rg365 (by rfl) ?_
            have lp386 : ∀ (nz : Nat) (i386 : Nat → Int32) (a386 : Nat → List Int32) (q386 : Nat → List Int64) (r386 : Nat → Nat) (l5_386 : Int32), kG yw142_116_L55 ig365 ag365 qg365 rg365 i386 a386 q386 r386 → ((0 : Int) ≤ l5_386.toInt) ∧ (l5_386.toInt ≤ 156) → kShf (ag365 133) (a386 133) l5_386.toInt.toNat → ((156 - l5_386.toInt)).toNat < nz → ko 7 (mi_h142, mi_c142) P (55, [(5, .int l5_386), (4, .int vg360), (0, .ref 116), (1, .int x1), (2, .int x2), (3, .int x3)], [], (0, 0), ks i386 a386 q386 r386) := by
              intro nz
              induction nz with
              | zero =>
                intro _ _ _ _ _ _ _ _ hm
                exact absurd hm (Nat.not_lt_zero _)
              | succ nz ih386 =>
                intro i386 a386 q386 r386 l5_386 hL386 p386_0 O386_0 hm386
                refine ft_go mi_k142 2 60 [(5, .int l5_386), (4, .int vg360), (0, .ref 116), (1, .int x1), (2, .int x2), (3, .int x3)] [.int 156, .int l5_386] i386 a386 q386 r386 (by rfl) ?_
                refine ft_if mi_k142 (decide (156 ≤ l5_386)) 85 63 [(5, .int l5_386), (4, .int vg360), (0, .ref 116), (1, .int x1), (2, .int x2), (3, .int x3)] [] (by rfl) (fun c => ?_) (fun c => ?_)
                ·
                  have c387 : (156 : Int32).toInt ≤ l5_386.toInt := kd_le c; clear c
                  have hG388 := kG_call hGg365 hL386 (by decide +kernel)
                  have qs389 : a386 133 = rShf (ag365 133) := kShf_eq O386_0 (orm114 c387 p386_0.2 korm156) (hGg365.I.2.1 133) (hG388.I.2.1 133)
                  have fi386_7453 : ((0 : Int) ≤ (i386 7453).toInt) ∧ ((i386 7453).toInt ≤ 40) := hG388.I.1 7453
                  have efi386_7453 : (i386 7453).toInt = (ig365 7453).toInt := hL386.ti 7453 rfl
                  have s390 : ((i386 7453) - 1).toInt = (i386 7453).toInt - (1 : Int32).toInt := kd_sub (orm115 c385 efi386_7453 korm40 korm1) (orm116 fi386_7453.2 korm1)
                  have hJ391 := kG_i hG388 7453 rfl (v := ((i386 7453) - 1)) ⟨(orm117 c385 efi386_7453 s390 korm40 korm1), (orm118 fi386_7453.2 s390 korm1)⟩
                  have s392 : (4 * ((i386 7453) - 1)).toInt = 4 * ((i386 7453) - 1).toInt := kd_cmul 4 korm4 (orm119 fi386_7453.1 s390 korm1) (orm120 fi386_7453.2 s390 korm1)
                  refine ft_go mi_k142 13 106 [(5, .int l5_386), (4, .int vg360), (0, .ref 116), (1, .int x1), (2, .int x2), (3, .int x3)] [.int x1, .int (4 * ((i386 7453) - 1)), .ref 133] (ku i386 7453 ((i386 7453) - 1)) a386 q386 r386 (by rfl) ?_
                  refine ko_iast3 mi_k142.1 (n := 160) (c := 160) (ax := (0, 0, 0, 0, 0)) (mi_k142.2 _ _ (by rfl)) (by rfl) (ksG133 _ _ _ _) (ksA133 _ _ _ _) (hJ391.I.2.1 133) rfl (orm121 c385 efi386_7453 s390 s392 korm40 korm1) (orm122 fi386_7453.2 s390 s392 korm1) ?_
                  intro a393 ea393 fa393
                  have hJ393 := kG_a3 hJ391 133 rfl ea393 fa393 (kE_cset (orm121 c385 efi386_7453 s390 s392 korm40 korm1) (orm236 w357 z2) (orm237 w357 z2))
                  have s394 : ((4 * ((i386 7453) - 1)) + 1).toInt = (4 * ((i386 7453) - 1)).toInt + (1 : Int32).toInt := kd_add (orm123 c385 efi386_7453 s390 s392 korm40 korm1) (orm124 fi386_7453.2 s390 s392 korm1)
                  refine ft_go mi_k142 9 120 [(5, .int l5_386), (4, .int vg360), (0, .ref 116), (1, .int x1), (2, .int x2), (3, .int x3)] [.int x2, .int ((4 * ((i386 7453) - 1)) + 1), .ref 133] (ku i386 7453 ((i386 7453) - 1)) a393 q386 r386 (by rfl) ?_
                  refine ko_iast3 mi_k142.1 (n := 160) (c := 160) (ax := (0, 0, 0, 0, 0)) (mi_k142.2 _ _ (by rfl)) (by rfl) (ksG133 _ _ _ _) (ksA133 _ _ _ _) (hJ393.I.2.1 133) rfl (orm125 c385 efi386_7453 s390 s392 s394 korm40 korm1) (orm126 fi386_7453.2 s390 s392 s394 korm1) ?_
                  intro a395 ea395 fa395
                  have hJ395 := kG_a3 hJ393 133 rfl ea395 fa395 (kE_cset (orm125 c385 efi386_7453 s390 s392 s394 korm40 korm1) (orm127 c385 efi386_7453 fi386_7453.2 s390 s392 s394 korm40 korm1) (orm239 w357))
                  have s396 : ((4 * ((i386 7453) - 1)) + 2).toInt = (4 * ((i386 7453) - 1)).toInt + (2 : Int32).toInt := kd_add (orm128 c385 efi386_7453 s390 s392 korm40 korm1 korm2) (orm129 fi386_7453.2 s390 s392 korm1 korm2)
                  refine ft_go mi_k142 9 135 [(5, .int l5_386), (4, .int vg360), (0, .ref 116), (1, .int x1), (2, .int x2), (3, .int x3)] [.int vg360, .int ((4 * ((i386 7453) - 1)) + 2), .ref 133] (ku i386 7453 ((i386 7453) - 1)) a395 q386 r386 (by rfl) ?_
                  refine ko_iast3 mi_k142.1 (n := 160) (c := 160) (ax := (0, 0, 0, 0, 0)) (mi_k142.2 _ _ (by rfl)) (by rfl) (ksG133 _ _ _ _) (ksA133 _ _ _ _) (hJ395.I.2.1 133) rfl (orm130 c385 efi386_7453 s390 s392 s396 korm40 korm1 korm2) (orm131 fi386_7453.2 s390 s392 s396 korm1 korm2) ?_
                  intro a397 ea397 fa397
                  have hJ397 := kG_a3 hJ395 133 rfl ea397 fa397 (kE_cset (orm130 c385 efi386_7453 s390 s392 s396 korm40 korm1 korm2) (orm132 c385 efi386_7453 fi386_7453.2 s390 s392 s396 korm40 korm1 korm2) (orm133 c385 efi386_7453 fi386_7453.2 s390 s392 s396 korm40 korm1 korm2))
                  have s398 : ((4 * ((i386 7453) - 1)) + 3).toInt = (4 * ((i386 7453) - 1)).toInt + (3 : Int32).toInt := kd_add (orm134 c385 efi386_7453 s390 s392 korm40 korm1 korm3) (orm135 fi386_7453.2 s390 s392 korm1 korm3)
                  refine ft_go mi_k142 9 149 [(5, .int l5_386), (4, .int vg360), (0, .ref 116), (1, .int x1), (2, .int x2), (3, .int x3)] [.int x3, .int ((4 * ((i386 7453) - 1)) + 3), .ref 133] (ku i386 7453 ((i386 7453) - 1)) a397 q386 r386 (by rfl) ?_
                  refine ko_iast3 mi_k142.1 (n := 160) (c := 160) (ax := (0, 0, 0, 0, 0)) (mi_k142.2 _ _ (by rfl)) (by rfl) (ksG133 _ _ _ _) (ksA133 _ _ _ _) (hJ397.I.2.1 133) rfl (orm136 c385 efi386_7453 s390 s392 s398 korm40 korm1 korm3) (orm137 fi386_7453.2 s390 s392 s398 korm1 korm3) ?_
                  intro a399 ea399 fa399
                  have hJ399 := kG_a3 hJ397 133 rfl ea399 fa399 (kE_cset (orm136 c385 efi386_7453 s390 s392 s398 korm40 korm1 korm3) (orm138 c385 efi386_7453 fi386_7453.2 s390 s392 s398 korm40 korm1 korm3) (orm139 c385 efi386_7453 fi386_7453.2 s390 s392 s398 korm40 korm1 korm3))
                  have s400 : (((i386 7453) - 1) + 1).toInt = ((i386 7453) - 1).toInt + (1 : Int32).toInt := kd_add (orm140 fi386_7453.1 s390 korm1) (orm141 fi386_7453.2 s390 s392 korm1)
                  have hJ401 := kG_i hJ399 7453 rfl (v := (((i386 7453) - 1) + 1)) ⟨(orm142 fi386_7453.1 s390 s400 korm1), (orm143 fi386_7453.2 s390 s392 s400 korm1)⟩
                  have hJ402 := kG_i hJ401 7452 rfl (v := (((i386 7453) - 1) + 1)) ⟨(orm142 fi386_7453.1 s390 s400 korm1), (orm143 fi386_7453.2 s390 s392 s400 korm1)⟩
                  refine ft_go mi_k142 11 170 [(5, .int l5_386), (4, .int vg360), (0, .ref 116), (1, .int x1), (2, .int x2), (3, .int x3)] [.int vg360] (ku (ku (ku i386 7453 ((i386 7453) - 1)) 7453 (((i386 7453) - 1) + 1)) 7452 (((i386 7453) - 1) + 1)) a399 q386 r386 (by rfl) ?_
                  have bw403 : (kTold (i 7424) x1 x2 ∧ kFit x2 x3) := ⟨(orm240 w357 z2), (kFit_6 (orm241 w357)).mpr (orm242 z359.1 z359.2)⟩
                  have bw404 : ¬ ((rGet x1 x2 (a 118, a 117, i 7426, i 7427)).toInt = x3.toInt) := (orm106 c364 u363)
                  have bw405 : (i 7453).toInt = 40 := (orm144 c385 efig365_7453 fi_7453.2 korm40)
                  exact ft_ret mi_k142 (by rfl) (hP vg360 _ _ _ _ hJ402 ⟨orm102, ⟨⟨(show vg360 = (rMend (i 7424) x1 x2 x3 (a 118, a 117, i 7426, i 7427) (a 133, i 7452, i 7453)).1 from (by unfold rMend; unfold rAdd; simp only [if_pos bw403, if_neg bw404, if_pos bw405]; (try unfold rPut); first | done | rfl | (simp only [q362, sMn, sMx]; done) | (simp only [q362, sMn, sMx]; rfl))), (show a399 118 = ((rMend (i 7424) x1 x2 x3 (a 118, a 117, i 7426, i 7427) (a 133, i 7452, i 7453)).2.1).1 from (by unfold rMend; unfold rAdd; simp only [if_pos bw403, if_neg bw404, if_pos bw405]; (try unfold rPut); first | done | rfl | (simp only [fa399 118 (by decide), fa397 118 (by decide), fa395 118 (by decide), fa393 118 (by decide), hL386.fa 118 rfl, q366, sMn, sMx]; done) | (simp only [fa399 118 (by decide), fa397 118 (by decide), fa395 118 (by decide), fa393 118 (by decide), hL386.fa 118 rfl, q366, sMn, sMx]; rfl))), (show a399 117 = ((rMend (i 7424) x1 x2 x3 (a 118, a 117, i 7426, i 7427) (a 133, i 7452, i 7453)).2.1).2.1 from (by unfold rMend; unfold rAdd; simp only [if_pos bw403, if_neg bw404, if_pos bw405]; (try unfold rPut); first | done | rfl | (simp only [fa399 117 (by decide), fa397 117 (by decide), fa395 117 (by decide), fa393 117 (by decide), hL386.fa 117 rfl, q367, sMn, sMx]; done) | (simp only [fa399 117 (by decide), fa397 117 (by decide), fa395 117 (by decide), fa393 117 (by decide), hL386.fa 117 rfl, q367, sMn, sMx]; rfl))), (show i386 7426 = ((rMend (i 7424) x1 x2 x3 (a 118, a 117, i 7426, i 7427) (a 133, i 7452, i 7453)).2.1).2.2.1 from (by unfold rMend; unfold rAdd; simp only [if_pos bw403, if_neg bw404, if_pos bw405]; (try unfold rPut); first | done | rfl | (simp only [(show i386 7426 = ig365 7426 from hL386.fi 7426 rfl), q368, sMn, sMx]; done) | (simp only [(show i386 7426 = ig365 7426 from hL386.fi 7426 rfl), q368, sMn, sMx]; rfl))), (show i386 7427 = ((rMend (i 7424) x1 x2 x3 (a 118, a 117, i 7426, i 7427) (a 133, i 7452, i 7453)).2.1).2.2.2 from (by unfold rMend; unfold rAdd; simp only [if_pos bw403, if_neg bw404, if_pos bw405]; (try unfold rPut); first | done | rfl | (simp only [(show i386 7427 = ig365 7427 from hL386.fi 7427 rfl), q369, sMn, sMx]; done) | (simp only [(show i386 7427 = ig365 7427 from hL386.fi 7427 rfl), q369, sMn, sMx]; rfl))), (show a399 133 = ((rMend (i 7424) x1 x2 x3 (a 118, a 117, i 7426, i 7427) (a 133, i 7452, i 7453)).2.2).1 from (by unfold rMend; unfold rAdd; simp only [if_pos bw403, if_neg bw404, if_pos bw405]; (try unfold rPut); first | done | rfl | (simp only [ea399, ea397, (show i386 7453 = ig365 7453 from hL386.fi 7453 rfl), (show ig365 7453 = i 7453 from kg365.fi 7453 rfl), ea395, q362, ea393, qs389, kg365.fa 133 rfl, sMn, sMx]; done) | (simp only [ea399, ea397, (show i386 7453 = ig365 7453 from hL386.fi 7453 rfl), (show ig365 7453 = i 7453 from kg365.fi 7453 rfl), ea395, q362, ea393, qs389, kg365.fa 133 rfl, sMn, sMx]; rfl))), (show (((i386 7453) - 1) + 1) = ((rMend (i 7424) x1 x2 x3 (a 118, a 117, i 7426, i 7427) (a 133, i 7452, i 7453)).2.2).2.1 from (by unfold rMend; unfold rAdd; simp only [if_pos bw403, if_neg bw404, if_pos bw405]; (try unfold rPut); first | done | rfl | (simp only [(show i386 7453 = ig365 7453 from hL386.fi 7453 rfl), (show ig365 7453 = i 7453 from kg365.fi 7453 rfl), sMn, sMx]; done) | (simp only [(show i386 7453 = ig365 7453 from hL386.fi 7453 rfl), (show ig365 7453 = i 7453 from kg365.fi 7453 rfl), sMn, sMx]; rfl))), (show (((i386 7453) - 1) + 1) = ((rMend (i 7424) x1 x2 x3 (a 118, a 117, i 7426, i 7427) (a 133, i 7452, i 7453)).2.2).2.2 from (by unfold rMend; unfold rAdd; simp only [if_pos bw403, if_neg bw404, if_pos bw405]; (try unfold rPut); first | done | rfl | (simp only [(show i386 7453 = ig365 7453 from hL386.fi 7453 rfl), (show ig365 7453 = i 7453 from kg365.fi 7453 rfl), sMn, sMx]; done) | (simp only [(show i386 7453 = ig365 7453 from hL386.fi 7453 rfl), (show ig365 7453 = i 7453 from kg365.fi 7453 rfl), sMn, sMx]; rfl)))⟩, (kChL_cast (kChL_set4 (kChL_cast (kShf_end O386_0 (orm114 c387 p386_0.2 korm156) (hL386.I.2.1 133) (kChL_cast hE_chg (kg365.fa 133 rfl))) rfl) (hJ391.I.2.1 133) (d := ((i386 7453) - 1)) (orm117 c385 efi386_7453 s390 korm40 korm1) (orm145 fi386_7453.2 s390 s392 korm1) (orm108 s392) (orm109 s392 s394 korm1) (orm110 s392 s396 korm2) (orm111 s392 s398 korm3) ea393 ea395 ea397 ea399 (orm243 w357)) rfl)⟩⟩)
                ·
                  have c406 : l5_386.toInt < (156 : Int32).toInt := kd_leF c; clear c
                  have s407 : (l5_386 + 4).toInt = l5_386.toInt + (4 : Int32).toInt := kd_add (orm146 p386_0.1 korm4) (orm147 p386_0.2 korm4)
                  refine ft_go mi_k142 8 77 [(5, .int l5_386), (4, .int vg360), (0, .ref 116), (1, .int x1), (2, .int x2), (3, .int x3)] [.int (l5_386 + 4), .ref 133, .int l5_386, .ref 133] i386 a386 q386 r386 (by rfl) ?_
                  refine ko_iald3 mi_k142.1 (n := 160) (c := 160) (ax := (0, 0, 0, 0, 0)) (mi_k142.2 _ _ (by rfl)) (by rfl) (ksG133 _ _ _ _) (hL386.I.2.1 133) rfl (orm148 p386_0.1 s407 korm4) (orm149 c406 s407 korm156 korm4) ?_
                  have r408 : ((((l5_386 + 4).toInt % 4) = 0 → (0 : Int) ≤ ((a386 133).getD (l5_386 + 4).toNatClampNeg 0).toInt ∧ ((a386 133).getD (l5_386 + 4).toNatClampNeg 0).toInt ≤ 7)) ∧ ((((l5_386 + 4).toInt % 4) = 1 → (0 : Int) ≤ ((a386 133).getD (l5_386 + 4).toNatClampNeg 0).toInt ∧ ((a386 133).getD (l5_386 + 4).toNatClampNeg 0).toInt ≤ 6)) := kE_ccond hL386.I (j := (l5_386 + 4)) (orm148 p386_0.1 s407 korm4)
                  refine ko_iast3 mi_k142.1 (n := 160) (c := 160) (ax := (0, 0, 0, 0, 0)) (mi_k142.2 _ _ (by rfl)) (by rfl) (ksG133 _ _ _ _) (ksA133 _ _ _ _) (hL386.I.2.1 133) rfl (orm0 p386_0.1) (orm150 p386_0.2) ?_
                  intro a409 ea409 fa409
                  have hJ409 := kG_a3 hL386 133 rfl ea409 fa409 (kE_cset (orm0 p386_0.1) (by have := korm4; have := korm40; have := korm156; omega) (by have := korm4; have := korm40; have := korm156; omega))
                  have s410 : (l5_386 + 1).toInt = l5_386.toInt + (1 : Int32).toInt := kd_add (orm98 p386_0.1 korm1) (orm151 p386_0.2 korm1)
                  refine ft_go mi_k142 2 55 [(5, .int (l5_386 + 1)), (4, .int vg360), (0, .ref 116), (1, .int x1), (2, .int x2), (3, .int x3)] [] i386 a409 q386 r386 (by rfl) ?_
                  exact ih386 _ _ _ _ _ hJ409 (orm152 c406 p386_0.1 s410 korm156 korm1) (kShf_step O386_0 (hL386.I.2.1 133) (orm0 p386_0.1) (orm153 c406 korm156) (orm154 s407 korm4) (orm155 s410 korm1) ea409 rfl) (kj_meas (orm156 s410 korm1) (orm157 c406 korm156) hm386)
            exact lp386 _ _ _ _ _ _ (kG_self _ hGg365.I hGg365.R) (orm158 korm0) (kShf_start rfl kn0) (Nat.lt_succ_self _)
        ·
          have c411 : vg360.toInt = x3.toInt := kd_neF c; clear c
          refine ft_go mi_k142 1 35 [(4, .int vg360), (0, .ref 116), (1, .int x1), (2, .int x2), (3, .int x3)] [.int vg360] i a q r (by rfl) ?_
          have bw412 : (kTold (i 7424) x1 x2 ∧ kFit x2 x3) := ⟨(orm240 w357 z2), (kFit_6 (orm241 w357)).mpr (orm242 z359.1 z359.2)⟩
          have bw413 : (rGet x1 x2 (a 118, a 117, i 7426, i 7427)).toInt = x3.toInt := (orm160 c411 u363)
          exact ft_ret mi_k142 (by rfl) (hP vg360 _ _ _ _ hG ⟨(orm159 hp0), ⟨⟨(show vg360 = (rMend (i 7424) x1 x2 x3 (a 118, a 117, i 7426, i 7427) (a 133, i 7452, i 7453)).1 from (by unfold rMend; simp only [if_pos bw412, if_pos bw413]; first | done | rfl | (simp only [q362, sMn, sMx]; done) | (simp only [q362, sMn, sMx]; rfl))), (show a 118 = ((rMend (i 7424) x1 x2 x3 (a 118, a 117, i 7426, i 7427) (a 133, i 7452, i 7453)).2.1).1 from (by unfold rMend; simp only [if_pos bw412, if_pos bw413]; first | done | rfl | (simp only [sMn, sMx]; done) | (simp only [sMn, sMx]; rfl))), (show a 117 = ((rMend (i 7424) x1 x2 x3 (a 118, a 117, i 7426, i 7427) (a 133, i 7452, i 7453)).2.1).2.1 from (by unfold rMend; simp only [if_pos bw412, if_pos bw413]; first | done | rfl | (simp only [sMn, sMx]; done) | (simp only [sMn, sMx]; rfl))), (show i 7426 = ((rMend (i 7424) x1 x2 x3 (a 118, a 117, i 7426, i 7427) (a 133, i 7452, i 7453)).2.1).2.2.1 from (by unfold rMend; simp only [if_pos bw412, if_pos bw413]; first | done | rfl | (simp only [sMn, sMx]; done) | (simp only [sMn, sMx]; rfl))), (show i 7427 = ((rMend (i 7424) x1 x2 x3 (a 118, a 117, i 7426, i 7427) (a 133, i 7452, i 7453)).2.1).2.2.2 from (by unfold rMend; simp only [if_pos bw412, if_pos bw413]; first | done | rfl | (simp only [sMn, sMx]; done) | (simp only [sMn, sMx]; rfl))), (show a 133 = ((rMend (i 7424) x1 x2 x3 (a 118, a 117, i 7426, i 7427) (a 133, i 7452, i 7453)).2.2).1 from (by unfold rMend; simp only [if_pos bw412, if_pos bw413]; first | done | rfl | (simp only [sMn, sMx]; done) | (simp only [sMn, sMx]; rfl))), (show i 7452 = ((rMend (i 7424) x1 x2 x3 (a 118, a 117, i 7426, i 7427) (a 133, i 7452, i 7453)).2.2).2.1 from (by unfold rMend; simp only [if_pos bw412, if_pos bw413]; first | done | rfl | (simp only [sMn, sMx]; done) | (simp only [sMn, sMx]; rfl))), (show i 7453 = ((rMend (i 7424) x1 x2 x3 (a 118, a 117, i 7426, i 7427) (a 133, i 7452, i 7453)).2.2).2.2 from (by unfold rMend; simp only [if_pos bw412, if_pos bw413]; first | done | rfl | (simp only [sMn, sMx]; done) | (simp only [sMn, sMx]; rfl)))⟩, (kChL_cast hE_chg rfl)⟩⟩)
      ·
        subst eg358
        have z414 : ¬ (((0 : Int) ≤ x3.toInt) ∧ (x3.toInt ≤ 99)) := hg358
        refine ft_go mi_k142 2 18 [(0, .ref 116), (1, .int x1), (2, .int x2), (3, .int x3)] [.int (-1)] i a q r (by rfl) ?_
        have bw415 : ¬ (kTold (i 7424) x1 x2 ∧ kFit x2 x3) := (fun z => absurd ((kFit_6 (orm241 w357)).mp z.2) (orm244 z414))
        exact ft_ret mi_k142 (by rfl) (hP (-1) _ _ _ _ hG ⟨(orm159 hp0), ⟨⟨(show ((-1) : Int32) = (rMend (i 7424) x1 x2 x3 (a 118, a 117, i 7426, i 7427) (a 133, i 7452, i 7453)).1 from (by unfold rMend; simp only [if_neg bw415]; first | done | rfl | (simp only [sMn, sMx]; done) | (simp only [sMn, sMx]; rfl))), (show a 118 = ((rMend (i 7424) x1 x2 x3 (a 118, a 117, i 7426, i 7427) (a 133, i 7452, i 7453)).2.1).1 from (by unfold rMend; simp only [if_neg bw415]; first | done | rfl | (simp only [sMn, sMx]; done) | (simp only [sMn, sMx]; rfl))), (show a 117 = ((rMend (i 7424) x1 x2 x3 (a 118, a 117, i 7426, i 7427) (a 133, i 7452, i 7453)).2.1).2.1 from (by unfold rMend; simp only [if_neg bw415]; first | done | rfl | (simp only [sMn, sMx]; done) | (simp only [sMn, sMx]; rfl))), (show i 7426 = ((rMend (i 7424) x1 x2 x3 (a 118, a 117, i 7426, i 7427) (a 133, i 7452, i 7453)).2.1).2.2.1 from (by unfold rMend; simp only [if_neg bw415]; first | done | rfl | (simp only [sMn, sMx]; done) | (simp only [sMn, sMx]; rfl))), (show i 7427 = ((rMend (i 7424) x1 x2 x3 (a 118, a 117, i 7426, i 7427) (a 133, i 7452, i 7453)).2.1).2.2.2 from (by unfold rMend; simp only [if_neg bw415]; first | done | rfl | (simp only [sMn, sMx]; done) | (simp only [sMn, sMx]; rfl))), (show a 133 = ((rMend (i 7424) x1 x2 x3 (a 118, a 117, i 7426, i 7427) (a 133, i 7452, i 7453)).2.2).1 from (by unfold rMend; simp only [if_neg bw415]; first | done | rfl | (simp only [sMn, sMx]; done) | (simp only [sMn, sMx]; rfl))), (show i 7452 = ((rMend (i 7424) x1 x2 x3 (a 118, a 117, i 7426, i 7427) (a 133, i 7452, i 7453)).2.2).2.1 from (by unfold rMend; simp only [if_neg bw415]; first | done | rfl | (simp only [sMn, sMx]; done) | (simp only [sMn, sMx]; rfl))), (show i 7453 = ((rMend (i 7424) x1 x2 x3 (a 118, a 117, i 7426, i 7427) (a 133, i 7452, i 7453)).2.2).2.2 from (by unfold rMend; simp only [if_neg bw415]; first | done | rfl | (simp only [sMn, sMx]; done) | (simp only [sMn, sMx]; rfl)))⟩, (kChL_cast hE_chg rfl)⟩⟩)
    exact (orm245 w121 w180 w239 w298 w3 w357 w62 z2).elim
  ·
    subst eg1
    have fi_7424 : ((0 : Int) ≤ (i 7424).toInt) ∧ ((i 7424).toInt ≤ 8) := hG.I.1 7424
    have z416 : ¬ ((((0 : Int) ≤ x2.toInt) ∧ (x2.toInt ≤ 3) ∧ ((0 : Int) ≤ x1.toInt) ∧ (x1.toInt < (i 7424).toInt)) ∨ (((4 : Int) ≤ x2.toInt) ∧ (x2.toInt ≤ 6) ∧ (x1.toInt = 0))) := hg1
    refine ft_go mi_k142 2 18 [(0, .ref 116), (1, .int x1), (2, .int x2), (3, .int x3)] [.int (-1)] i a q r (by rfl) ?_
    have bw417 : ¬ (kTold (i 7424) x1 x2 ∧ kFit x2 x3) := (fun z => absurd z.1 (orm74 fi_7424.1 z416))
    exact ft_ret mi_k142 (by rfl) (hP (-1) _ _ _ _ hG ⟨(orm159 hp0), ⟨⟨(show ((-1) : Int32) = (rMend (i 7424) x1 x2 x3 (a 118, a 117, i 7426, i 7427) (a 133, i 7452, i 7453)).1 from (by unfold rMend; simp only [if_neg bw417]; first | done | rfl | (simp only [sMn, sMx]; done) | (simp only [sMn, sMx]; rfl))), (show a 118 = ((rMend (i 7424) x1 x2 x3 (a 118, a 117, i 7426, i 7427) (a 133, i 7452, i 7453)).2.1).1 from (by unfold rMend; simp only [if_neg bw417]; first | done | rfl | (simp only [sMn, sMx]; done) | (simp only [sMn, sMx]; rfl))), (show a 117 = ((rMend (i 7424) x1 x2 x3 (a 118, a 117, i 7426, i 7427) (a 133, i 7452, i 7453)).2.1).2.1 from (by unfold rMend; simp only [if_neg bw417]; first | done | rfl | (simp only [sMn, sMx]; done) | (simp only [sMn, sMx]; rfl))), (show i 7426 = ((rMend (i 7424) x1 x2 x3 (a 118, a 117, i 7426, i 7427) (a 133, i 7452, i 7453)).2.1).2.2.1 from (by unfold rMend; simp only [if_neg bw417]; first | done | rfl | (simp only [sMn, sMx]; done) | (simp only [sMn, sMx]; rfl))), (show i 7427 = ((rMend (i 7424) x1 x2 x3 (a 118, a 117, i 7426, i 7427) (a 133, i 7452, i 7453)).2.1).2.2.2 from (by unfold rMend; simp only [if_neg bw417]; first | done | rfl | (simp only [sMn, sMx]; done) | (simp only [sMn, sMx]; rfl))), (show a 133 = ((rMend (i 7424) x1 x2 x3 (a 118, a 117, i 7426, i 7427) (a 133, i 7452, i 7453)).2.2).1 from (by unfold rMend; simp only [if_neg bw417]; first | done | rfl | (simp only [sMn, sMx]; done) | (simp only [sMn, sMx]; rfl))), (show i 7452 = ((rMend (i 7424) x1 x2 x3 (a 118, a 117, i 7426, i 7427) (a 133, i 7452, i 7453)).2.2).2.1 from (by unfold rMend; simp only [if_neg bw417]; first | done | rfl | (simp only [sMn, sMx]; done) | (simp only [sMn, sMx]; rfl))), (show i 7453 = ((rMend (i 7424) x1 x2 x3 (a 118, a 117, i 7426, i 7427) (a 133, i 7452, i 7453)).2.2).2.2 from (by unfold rMend; simp only [if_neg bw417]; first | done | rfl | (simp only [sMn, sMx]; done) | (simp only [sMn, sMx]; rfl)))⟩, (kChL_cast hE_chg rfl)⟩⟩)
def yw144_116 : kW := ([7426, 7427, 7453], [117, 118], [], [])
