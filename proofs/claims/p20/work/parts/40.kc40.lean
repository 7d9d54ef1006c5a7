theorem oz1549 {a0 a1 a2 : Int} (h0 : a0 = 2) (h1 : a1 = a0) (h2 : a2 = a1) : a2 = 2 := by omega
theorem oz1550 {a0 : Int} (h0 : (0 : Int) ≤ a0) (h1 : (a0 + 7) ≤ 900) : ((0 : Int) ≤ a0) ∧ (a0 ≤ 999) := by omega
theorem oz1551 {a0 a1 : Int} (h0 : (0 : Int) ≤ a0) (h1 : (a1 + 4) ≤ 900) (h2 : a0 = (a1 + 1)) : ((0 : Int) ≤ a0) ∧ ((a0 + 3) ≤ 900) := by omega
theorem oz1552 {a0 a1 a2 : Int} (h0 : a0 = (a1 + 1)) (h1 : a2 = (a0 + 3)) : a2 = (a1 + 4) := by omega
theorem oz1553 {a0 a1 : Int} (h0 : (0 : Int) ≤ a0) (h1 : (a1 + 7) ≤ 900) (h2 : a0 = (a1 + 1)) : ((0 : Int) ≤ a0) ∧ ((a0 + 4) ≤ 900) := by omega
theorem oz1554 {a0 a1 a2 : Int} (h0 : a0 = 3) (h1 : a1 = a0) (h2 : a2 = a1) : a2 = 3 := by omega
theorem oz1555 {a0 a1 a2 : Int} (h0 : (0 : Int) ≤ a0) (h1 : (a1 + 7) ≤ 900) (h2 : a2 = (a1 + 1)) (h3 : a0 = (a2 + 4)) : ((0 : Int) ≤ a0) ∧ ((a0 + 2) ≤ 900) := by omega
theorem oz1556 {a0 a1 a2 a3 : Int} (h0 : a0 = (a1 + 2)) (h1 : a2 = (a3 + 1)) (h2 : a1 = (a2 + 4)) : a0 = (a3 + 7) := by omega
theorem oz1557 {a0 : Int} (h0 : (0 : Int) ≤ a0) (h1 : (a0 + 7) ≤ 900) : ((0 : Int) ≤ a0) ∧ ((a0 + 7) ≤ 900) := by omega
theorem oz1558 {a0 a1 : Int} (h0 : a0 = (a1 + 7)) : a0 = (a1 + 7) := by omega
theorem oz1559 {a0 : Int} (h0 : (0 : Int) ≤ a0) (h1 : (a0 + 8) ≤ 900) : ((0 : Int) ≤ a0) ∧ (a0 ≤ 999) := by omega
theorem oz1560 {a0 a1 : Int} (h0 : (0 : Int) ≤ a0) (h1 : (a1 + 8) ≤ 900) (h2 : a0 = (a1 + 1)) : ((0 : Int) ≤ a0) ∧ ((a0 + 3) ≤ 900) := by omega
theorem oz1561 {a0 a1 : Int} (h0 : (0 : Int) ≤ a0) (h1 : (a1 + 4) ≤ 900) (h2 : a0 = (a1 + 1)) : ((0 : Int) ≤ a0) ∧ ((a0 + 1) ≤ 900) := by omega
theorem oz1562 {a0 a1 a2 : Int} (h0 : (0 : Int) ≤ a0) (h1 : (a1 + 4) ≤ 900) (h2 : a2 = (a1 + 1)) (h3 : a0 = (a2 + 1)) : ((0 : Int) ≤ a0) ∧ ((a0 + 2) ≤ 900) := by omega
theorem oz1563 {a0 a1 a2 a3 : Int} (h0 : a0 = (a1 + 2)) (h1 : a2 = (a3 + 1)) (h2 : a1 = (a2 + 1)) : a0 = (a3 + 4) := by omega
theorem oz1564 {a0 a1 a2 : Int} (h0 : (0 : Int) ≤ a0) (h1 : (a1 + 8) ≤ 900) (h2 : a2 = (a1 + 1)) (h3 : a0 = (a2 + 3)) : ((0 : Int) ≤ a0) ∧ ((a0 + 4) ≤ 900) := by omega
theorem oz1565 {a0 a1 a2 a3 : Int} (h0 : a0 = (a1 + 4)) (h1 : a2 = (a3 + 1)) (h2 : a1 = (a2 + 3)) : a0 = (a3 + 8) := by omega
theorem oz1566 {a0 : Int} (h0 : (0 : Int) ≤ a0) (h1 : (a0 + 8) ≤ 900) : ((0 : Int) ≤ a0) ∧ ((a0 + 8) ≤ 900) := by omega
theorem oz1567 {a0 a1 : Int} (h0 : a0 = (a1 + 8)) : a0 = (a1 + 8) := by omega
theorem oz1568 {a0 : Int} (h0 : (0 : Int) ≤ a0) (h1 : (a0 + 4) ≤ 900) : ((0 : Int) ≤ a0) ∧ ((a0 + 4) ≤ 900) := by omega
theorem oz1569 {a0 a1 : Int} (h0 : a0 = (a1 + 4)) : a0 = (a1 + 4) := by omega
theorem oz1570 {a0 a1 a2 : Int} (h0 : a0 = 5) (h1 : a1 = a0) (h2 : a2 = a1) : a2 = 5 := by omega
theorem oz1571 {a0 a1 : Int} (h0 : (0 : Int) ≤ a0) (h1 : (a1 + 8) ≤ 900) (h2 : a0 = (a1 + 1)) : ((0 : Int) ≤ a0) ∧ ((a0 + 7) ≤ 900) := by omega
theorem oz1572 {a0 a1 a2 : Int} (h0 : a0 = (a1 + 1)) (h1 : a2 = (a0 + 7)) : a2 = (a1 + 8) := by omega
theorem oz1573 {a0 a1 a2 : Int} (h0 : a0 = 6) (h1 : a1 = a0) (h2 : a2 = a1) : a2 = 6 := by omega
theorem oz1574 {a0 : Int} (h0 : (0 : Int) ≤ a0) (h1 : (a0 + 14) ≤ 900) : ((0 : Int) ≤ a0) ∧ (a0 ≤ 999) := by omega
theorem oz1575 {a0 : Int} (h0 : (0 : Int) ≤ a0) (h1 : (a0 + 13) ≤ 900) : ((0 : Int) ≤ a0) ∧ (a0 ≤ 999) := by omega
theorem oz1576 {a0 a1 : Int} (h0 : (0 : Int) ≤ a0) (h1 : (a1 + 13) ≤ 900) (h2 : a0 = (a1 + 1)) : ((0 : Int) ≤ a0) ∧ ((a0 + 8) ≤ 900) := by omega
theorem oz1577 {a0 a1 a2 : Int} (h0 : (0 : Int) ≤ a0) (h1 : (a1 + 13) ≤ 900) (h2 : a2 = (a1 + 1)) (h3 : a0 = (a2 + 8)) : ((0 : Int) ≤ a0) ∧ ((a0 + 4) ≤ 900) := by omega
theorem oz1578 {a0 a1 a2 a3 : Int} (h0 : a0 = (a1 + 4)) (h1 : a2 = (a3 + 1)) (h2 : a1 = (a2 + 8)) : a0 = (a3 + 13) := by omega
theorem oz1579 {a0 : Int} (h0 : (0 : Int) ≤ a0) (h1 : (a0 + 13) ≤ 900) : ((0 : Int) ≤ a0) ∧ ((a0 + 13) ≤ 900) := by omega
theorem oz1580 {a0 a1 : Int} (h0 : a0 = (a1 + 13)) : a0 = (a1 + 13) := by omega
theorem oz1581 {a0 a1 : Int} (h0 : (0 : Int) ≤ a0) (h1 : (a1 + 14) ≤ 900) (h2 : a0 = (a1 + 1)) : ((0 : Int) ≤ a0) ∧ ((a0 + 13) ≤ 900) := by omega
theorem oz1582 {a0 a1 a2 : Int} (h0 : a0 = (a1 + 1)) (h1 : a2 = (a0 + 13)) : a2 = (a1 + 14) := by omega
theorem oz1583 {a0 : Int} (h0 : (0 : Int) ≤ a0) (h1 : a0 ≤ 7) (h2 : ¬ (a0 = 0)) (h3 : ¬ (a0 = 1)) (h4 : ¬ (a0 = 2)) (h5 : ¬ (a0 = 3)) (h6 : ¬ (a0 = 4)) (h7 : ¬ (a0 = 5)) (h8 : ¬ (a0 = 6)) (h9 : ¬ (a0 = 7)) : False := by omega
theorem oz1584 {a0 : Int} (h0 : (0 : Int) ≤ a0) (h1 : a0 ≤ 7) (h2 : ¬ (a0 = 5)) (h3 : ¬ (a0 = 6)) (h4 : ¬ (a0 = 7)) (h5 : ¬ (a0 = 0)) (h6 : ¬ (a0 = 1)) (h7 : ¬ (a0 = 2)) (h8 : ¬ (a0 = 3)) (h9 : ¬ (a0 = 4)) : False := by omega
def w212_116_l10_K2 : kW := ([7457], [135], [], [])
set_option maxRecDepth 100000 in
theorem kc212_116_l10_K2 {i : Nat → Int32} {a : Nat → List Int32} {q : Nat → List Int64} {r : Nat → Nat} (hI : kI i a q) (hr : kr r) (x1 : Int32) (x3 : Int32) (hp0 : ((0 : Int) ≤ x1.toInt) ∧ (x1.toInt ≤ 49)) (hp1 : ((a 134).getD x1.toNatClampNeg 0).toInt = 2) (hp2 : ((0 : Int) ≤ (i 7457).toInt) ∧ (((i 7457).toInt + 1) ≤ 900)) : km 3 212 [.ref 116, .int x1, .int 0, .int x3] (ks i a q r) (kVI w212_116_l10_K2 i a q r (fun v i1 a1 q1 r1 => (i1 7457).toInt = ((i 7457).toInt + 1))) := by
  have hG := kG_self w212_116_l10_K2 hI hr
  refine km_ofI (q := (mi_h212, mi_c212)) rfl (by decide) (Nat.le_of_ble_eq_true rfl) ?_
  intro P hP
  have r1 : ((0 : Int) ≤ ((a 134).getD x1.toNatClampNeg 0).toInt) ∧ (((a 134).getD x1.toNatClampNeg 0).toInt ≤ 7) := hG.I.2.2.1 134 (x1.toNatClampNeg)
  have fi_7457 : ((0 : Int) ≤ (i 7457).toInt) ∧ ((i 7457).toInt ≤ 1000) := hG.I.1 7457
  refine ft_go mi_k212 4 39 [(0, .ref 116), (1, .int x1), (2, .int 0), (3, .int x3)] [.int 11, .ref 116] i a q r (by rfl) ?_
  refine ko_callN mi_k212.1 (pc := 39) (ls := [(0, .ref 116), (1, .int x1), (2, .int 0), (3, .int x3)]) (st := [.int 11, .ref 116]) (h := ks i a q r) (i := (.invokevirtual 351, 3, 209, 0, 9, 0, 464)) (mi_k212.2 _ _ (by rfl)) (ft_invS mi_pq209 (by rfl)) (cy := mi_c209) mi_pq209 rfl (kc209_116 hG.I hG.R 11 (oz1529 fi_7457.1 hp2.2)) (by decide) ?_
  intro ig2 ag2 qg2 rg2 kg2 hg2
  have hGg2 := kG_call hG kg2 (by decide +kernel)
  have z3 : (ig2 7457).toInt = ((i 7457).toInt + 1) := hg2
  refine ft_go mi_k212 3 45 [(0, .ref 116), (1, .int x1), (2, .int 0), (3, .int x3)] [.int (x3 ^^^ x1)] ig2 ag2 qg2 rg2 (by rfl) ?_
  exact ft_ret mi_k212 (by rfl) (hP (x3 ^^^ x1) _ _ _ _ hGg2 (oz1355 z3))
def w212_116_l12_K2 : kW := ([7457], [135], [], [])
set_option maxRecDepth 100000 in
theorem kc212_116_l12_K2 {i : Nat → Int32} {a : Nat → List Int32} {q : Nat → List Int64} {r : Nat → Nat} (hI : kI i a q) (hr : kr r) (x1 : Int32) (x3 : Int32) (hp0 : ((0 : Int) ≤ x1.toInt) ∧ (x1.toInt ≤ 49)) (hp1 : ((a 134).getD x1.toNatClampNeg 0).toInt = 2) (hp2 : ((0 : Int) ≤ (i 7457).toInt) ∧ (((i 7457).toInt + 1) ≤ 900)) : km 5 212 [.ref 116, .int x1, .int 2, .int x3] (ks i a q r) (kVI w212_116_l12_K2 i a q r (fun v i1 a1 q1 r1 => (i1 7457).toInt = ((i 7457).toInt + 1))) := by
  have hG := kG_self w212_116_l12_K2 hI hr
  refine km_ofI (q := (mi_h212, mi_c212)) rfl (by decide) (Nat.le_of_ble_eq_true rfl) ?_
  intro P hP
  have r1 : ((0 : Int) ≤ ((a 134).getD x1.toNatClampNeg 0).toInt) ∧ (((a 134).getD x1.toNatClampNeg 0).toInt ≤ 7) := hG.I.2.2.1 134 (x1.toNatClampNeg)
  have fi_7457 : ((0 : Int) ≤ (i 7457).toInt) ∧ ((i 7457).toInt ≤ 1000) := hG.I.1 7457
  refine ft_go mi_k212 5 96 [(0, .ref 116), (1, .int x1), (2, .int 2), (3, .int x3)] [.int 2, .int x1, .ref 116] i a q r (by rfl) ?_
  refine ko_callPI mi_k212.1 (pc := 96) (ls := [(0, .ref 116), (1, .int x1), (2, .int 2), (3, .int x3)]) (st := [.int 2, .int x1, .ref 116]) (h := ks i a q r) (i := (.invokestatic 357, 3, 208, 0, 9, 0, 465)) (mi_k212.2 _ _ (by rfl)) (ft_invS mi_pq208 (by rfl)) (cy := mi_c208) mi_pq208 rfl (kc208_l02 hG.I hG.R ) (by decide) ?_
  intro vg2 hg2
  have z3 : vg2.toInt = 0 := hg2
  have evvg2 := kj_eq (oz236 z3) (by decide : (0 : Int32).toInt = 0)
  subst evvg2
  refine ft_go mi_k212 1 100 [(0, .ref 116), (1, .int x1), (2, .int 2), (3, .int x3)] [.int x3, .int 0, .int x1, .ref 116] i a q r (by rfl) ?_
  refine ko_callI mi_k212.1 (pc := 100) (ls := [(0, .ref 116), (1, .int x1), (2, .int 2), (3, .int x3)]) (st := [.int x3, .int 0, .int x1, .ref 116]) (h := ks i a q r) (i := (.invokevirtual 363, 3, 212, 0, 9, 0, 467)) (mi_k212.2 _ _ (by rfl)) (ft_invS mi_pq212 (by rfl)) (cy := mi_c212) mi_pq212 rfl (kc212_116_l10_K2 hG.I hG.R x1 x3 (oz1339 hp0.1 hp0.2) (oz1411 hp1) (oz1354 fi_7457.1 hp2.2)) (by decide) ?_
  intro vg4 ig4 ag4 qg4 rg4 kg4 hg4
  have hGg4 := kG_call hG kg4 (by decide +kernel)
  have z5 : (ig4 7457).toInt = ((i 7457).toInt + 1) := hg4
  exact ft_ret mi_k212 (by rfl) (hP vg4 _ _ _ _ hGg4 (oz1355 z5))
def w213_116_l10_K2 : kW := ([7457], [135], [], [])
set_option maxRecDepth 100000 in
theorem kc213_116_l10_K2 {i : Nat → Int32} {a : Nat → List Int32} {q : Nat → List Int64} {r : Nat → Nat} (hI : kI i a q) (hr : kr r) (x1 : Int32) (x3 : Int32) (hp0 : ((0 : Int) ≤ x1.toInt) ∧ (x1.toInt ≤ 49)) (hp1 : ((a 134).getD x1.toNatClampNeg 0).toInt = 2) (hp2 : ((0 : Int) ≤ (i 7457).toInt) ∧ (((i 7457).toInt + 5) ≤ 900)) : km 11 213 [.ref 116, .int x1, .int 0, .int x3] (ks i a q r) (kVI w213_116_l10_K2 i a q r (fun v i1 a1 q1 r1 => (i1 7457).toInt = ((i 7457).toInt + 5))) := by
  have hG := kG_self w213_116_l10_K2 hI hr
  refine km_ofI (q := (mi_h213, mi_c213)) rfl (by decide) (Nat.le_of_ble_eq_true rfl) ?_
  intro P hP
  have r1 : ((0 : Int) ≤ ((a 134).getD x1.toNatClampNeg 0).toInt) ∧ (((a 134).getD x1.toNatClampNeg 0).toInt ≤ 7) := hG.I.2.2.1 134 (x1.toNatClampNeg)
  have fi_7457 : ((0 : Int) ≤ (i 7457).toInt) ∧ ((i 7457).toInt ≤ 1000) := hG.I.1 7457
  refine ft_go mi_k213 4 38 [(0, .ref 116), (1, .int x1), (2, .int 0), (3, .int x3)] [.int 2, .ref 116] i a q r (by rfl) ?_
  refine ko_callN mi_k213.1 (pc := 38) (ls := [(0, .ref 116), (1, .int x1), (2, .int 0), (3, .int x3)]) (st := [.int 2, .ref 116]) (h := ks i a q r) (i := (.invokevirtual 351, 3, 209, 0, 9, 0, 464)) (mi_k213.2 _ _ (by rfl)) (ft_invS mi_pq209 (by rfl)) (cy := mi_c209) mi_pq209 rfl (kc209_116 hG.I hG.R 2 (oz1537 fi_7457.1 hp2.2)) (by decide) ?_
  intro ig2 ag2 qg2 rg2 kg2 hg2
  have hGg2 := kG_call hG kg2 (by decide +kernel)
  have fig2_7457 : ((0 : Int) ≤ (ig2 7457).toInt) ∧ ((ig2 7457).toInt ≤ 1000) := hGg2.I.1 7457
  have z3 : (ig2 7457).toInt = ((i 7457).toInt + 1) := hg2
  refine ft_go mi_k213 5 48 [(0, .ref 116), (1, .int x1), (2, .int 0), (3, .int x3)] [.int x1, .ref 134, .int x1, .ref 116] ig2 ag2 qg2 rg2 (by rfl) ?_
  refine ko_iald3 mi_k213.1 (n := 50) (c := 50) (ax := (0, 0, 0, 0, 0)) (mi_k213.2 _ _ (by rfl)) (by rfl) (ksG134 _ _ _ _) (hGg2.I.2.1 134) rfl (oz3 hp0.1) (oz1336 hp0.2) ?_
  have r4 : ((0 : Int) ≤ ((ag2 134).getD x1.toNatClampNeg 0).toInt) ∧ (((ag2 134).getD x1.toNatClampNeg 0).toInt ≤ 7) := hGg2.I.2.2.1 134 (x1.toNatClampNeg)
  have u5 : ((ag2 134).getD x1.toNatClampNeg 0).toInt = ((a 134).getD x1.toNatClampNeg 0).toInt := congrArg (fun z : List Int32 => (z.getD x1.toNatClampNeg 0).toInt) (kg2.fa 134 rfl)
  refine ko_eq (x1 := (49, [(0, .ref 116), (1, .int x1), (2, .int 0), (3, .int x3)], [.int 2, .int x1, .ref 116], (0, 0), ks ig2 ag2 qg2 rg2)) (by rw [(kj_eq (oz1412 hp1 u5) (by decide) : ((ag2 134).getD x1.toNatClampNeg 0) = 2)]) ?_
  refine ft_go mi_k213 1 50 [(0, .ref 116), (1, .int x1), (2, .int 0), (3, .int x3)] [.int x3, .int 2, .int x1, .ref 116] ig2 ag2 qg2 rg2 (by rfl) ?_
  refine ko_callI mi_k213.1 (pc := 50) (ls := [(0, .ref 116), (1, .int x1), (2, .int 0), (3, .int x3)]) (st := [.int x3, .int 2, .int x1, .ref 116]) (h := ks ig2 ag2 qg2 rg2) (i := (.invokevirtual 360, 3, 211, 0, 9, 0, 466)) (mi_k213.2 _ _ (by rfl)) (ft_invS mi_pq211 (by rfl)) (cy := mi_c211) mi_pq211 rfl (kc211_116_l12_K2 hGg2.I hGg2.R x1 x3 (oz1339 hp0.1 hp0.2) (oz1412 hp1 u5) (oz1543 fig2_7457.1 hp2.2 z3)) (by decide) ?_
  intro vg6 ig6 ag6 qg6 rg6 kg6 hg6
  have hGg6 := kG_call hGg2 kg6 (by decide +kernel)
  have fig6_7457 : ((0 : Int) ≤ (ig6 7457).toInt) ∧ ((ig6 7457).toInt ≤ 1000) := hGg6.I.1 7457
  have z7 : (ig6 7457).toInt = ((ig2 7457).toInt + 3) := hg6
  refine ft_go mi_k213 7 64 [(4, .int vg6), (0, .ref 116), (1, .int x1), (2, .int 0), (3, .int x3)] [.int x1, .ref 134, .int x1, .ref 116, .int vg6] ig6 ag6 qg6 rg6 (by rfl) ?_
  refine ko_iald3 mi_k213.1 (n := 50) (c := 50) (ax := (0, 0, 0, 0, 0)) (mi_k213.2 _ _ (by rfl)) (by rfl) (ksG134 _ _ _ _) (hGg6.I.2.1 134) rfl (oz3 hp0.1) (oz1336 hp0.2) ?_
  have r8 : ((0 : Int) ≤ ((ag6 134).getD x1.toNatClampNeg 0).toInt) ∧ (((ag6 134).getD x1.toNatClampNeg 0).toInt ≤ 7) := hGg6.I.2.2.1 134 (x1.toNatClampNeg)
  have u9 : ((ag6 134).getD x1.toNatClampNeg 0).toInt = ((ag2 134).getD x1.toNatClampNeg 0).toInt := congrArg (fun z : List Int32 => (z.getD x1.toNatClampNeg 0).toInt) (kg6.fa 134 rfl)
  refine ko_eq (x1 := (65, [(4, .int vg6), (0, .ref 116), (1, .int x1), (2, .int 0), (3, .int x3)], [.int 2, .int x1, .ref 116, .int vg6], (0, 0), ks ig6 ag6 qg6 rg6)) (by rw [(kj_eq (oz1549 hp1 u5 u9) (by decide) : ((ag6 134).getD x1.toNatClampNeg 0) = 2)]) ?_
  refine ft_go mi_k213 1 66 [(4, .int vg6), (0, .ref 116), (1, .int x1), (2, .int 0), (3, .int x3)] [.int 1, .int 2, .int x1, .ref 116, .int vg6] ig6 ag6 qg6 rg6 (by rfl) ?_
  refine ko_callI mi_k213.1 (pc := 66) (ls := [(4, .int vg6), (0, .ref 116), (1, .int x1), (2, .int 0), (3, .int x3)]) (st := [.int 1, .int 2, .int x1, .ref 116, .int vg6]) (h := ks ig6 ag6 qg6 rg6) (i := (.invokevirtual 363, 3, 212, 0, 9, 0, 467)) (mi_k213.2 _ _ (by rfl)) (ft_invS mi_pq212 (by rfl)) (cy := mi_c212) mi_pq212 rfl (kc212_116_l12_K2 hGg6.I hGg6.R x1 1 (oz1339 hp0.1 hp0.2) (oz1549 hp1 u5 u9) (oz1545 fig6_7457.1 hp2.2 z3 z7)) (by decide) ?_
  intro vg10 ig10 ag10 qg10 rg10 kg10 hg10
  have hGg10 := kG_call hGg6 kg10 (by decide +kernel)
  have z11 : (ig10 7457).toInt = ((ig6 7457).toInt + 1) := hg10
  have b12 : ((-2147483648 : Int) ≤ vg6.toInt) ∧ (vg6.toInt ≤ 2147483647) := kd_bd vg6
  have b13 : ((-2147483648 : Int) ≤ vg10.toInt) ∧ (vg10.toInt ≤ 2147483647) := kd_bd vg10
  refine ft_go mi_k213 1 70 [(4, .int vg6), (0, .ref 116), (1, .int x1), (2, .int 0), (3, .int x3)] [.int (vg6 - vg10)] ig10 ag10 qg10 rg10 (by rfl) ?_
  exact ft_ret mi_k213 (by rfl) (hP (vg6 - vg10) _ _ _ _ hGg10 (oz1546 z11 z3 z7))
def w213_116_l12_K2 : kW := ([7457], [135], [], [])
set_option maxRecDepth 100000 in
theorem kc213_116_l12_K2 {i : Nat → Int32} {a : Nat → List Int32} {q : Nat → List Int64} {r : Nat → Nat} (hI : kI i a q) (hr : kr r) (x1 : Int32) (x3 : Int32) (hp0 : ((0 : Int) ≤ x1.toInt) ∧ (x1.toInt ≤ 49)) (hp1 : ((a 134).getD x1.toNatClampNeg 0).toInt = 2) (hp2 : ((0 : Int) ≤ (i 7457).toInt) ∧ (((i 7457).toInt + 5) ≤ 900)) : km 13 213 [.ref 116, .int x1, .int 2, .int x3] (ks i a q r) (kVI w213_116_l12_K2 i a q r (fun v i1 a1 q1 r1 => (i1 7457).toInt = ((i 7457).toInt + 5))) := by
  have hG := kG_self w213_116_l12_K2 hI hr
  refine km_ofI (q := (mi_h213, mi_c213)) rfl (by decide) (Nat.le_of_ble_eq_true rfl) ?_
  intro P hP
  have r1 : ((0 : Int) ≤ ((a 134).getD x1.toNatClampNeg 0).toInt) ∧ (((a 134).getD x1.toNatClampNeg 0).toInt ≤ 7) := hG.I.2.2.1 134 (x1.toNatClampNeg)
  have fi_7457 : ((0 : Int) ≤ (i 7457).toInt) ∧ ((i 7457).toInt ≤ 1000) := hG.I.1 7457
  refine ft_go mi_k213 5 106 [(0, .ref 116), (1, .int x1), (2, .int 2), (3, .int x3)] [.int 2, .int x1, .ref 116] i a q r (by rfl) ?_
  refine ko_callPI mi_k213.1 (pc := 106) (ls := [(0, .ref 116), (1, .int x1), (2, .int 2), (3, .int x3)]) (st := [.int 2, .int x1, .ref 116]) (h := ks i a q r) (i := (.invokestatic 357, 3, 208, 0, 9, 0, 465)) (mi_k213.2 _ _ (by rfl)) (ft_invS mi_pq208 (by rfl)) (cy := mi_c208) mi_pq208 rfl (kc208_l02 hG.I hG.R ) (by decide) ?_
  intro vg2 hg2
  have z3 : vg2.toInt = 0 := hg2
  have evvg2 := kj_eq (oz236 z3) (by decide : (0 : Int32).toInt = 0)
  subst evvg2
  refine ft_go mi_k213 1 110 [(0, .ref 116), (1, .int x1), (2, .int 2), (3, .int x3)] [.int x3, .int 0, .int x1, .ref 116] i a q r (by rfl) ?_
  refine ko_callI mi_k213.1 (pc := 110) (ls := [(0, .ref 116), (1, .int x1), (2, .int 2), (3, .int x3)]) (st := [.int x3, .int 0, .int x1, .ref 116]) (h := ks i a q r) (i := (.invokevirtual 366, 3, 213, 0, 9, 0, 468)) (mi_k213.2 _ _ (by rfl)) (ft_invS mi_pq213 (by rfl)) (cy := mi_c213) mi_pq213 rfl (kc213_116_l10_K2 hG.I hG.R x1 x3 (oz1339 hp0.1 hp0.2) (oz1411 hp1) (oz1547 fi_7457.1 hp2.2)) (by decide) ?_
  intro vg4 ig4 ag4 qg4 rg4 kg4 hg4
  have hGg4 := kG_call hG kg4 (by decide +kernel)
  have z5 : (ig4 7457).toInt = ((i 7457).toInt + 5) := hg4
  exact ft_ret mi_k213 (by rfl) (hP vg4 _ _ _ _ hGg4 (oz1548 z5))
set_option maxRecDepth 100000 in
theorem kc208_l03 {i : Nat → Int32} {a : Nat → List Int32} {q : Nat → List Int64} {r : Nat → Nat} (hI : kI i a q) (hr : kr r)  : km 1 208 [.int 3] (ks i a q r) (kPI (ks i a q r) (fun v => v.toInt = 2)) := by
  have hG := kG_self kW0 hI hr
  refine km_ofPI (q := (mi_h208, mi_c208)) rfl (by decide) (Nat.le_of_ble_eq_true rfl) ?_
  intro P hP
  refine ft_go mi_k208 3 37 [(0, .int 3)] [.int 2] i a q r (by rfl) ?_
  exact ft_ret mi_k208 (by rfl) (hP 2 (oz1411 kn2))
def w210_116_l10_K3 : kW := ([7457], [135], [], [])
set_option maxRecDepth 100000 in
theorem kc210_116_l10_K3 {i : Nat → Int32} {a : Nat → List Int32} {q : Nat → List Int64} {r : Nat → Nat} (hI : kI i a q) (hr : kr r) (x1 : Int32) (x3 : Int32) (hp0 : ((0 : Int) ≤ x1.toInt) ∧ (x1.toInt ≤ 49)) (hp1 : ((a 134).getD x1.toNatClampNeg 0).toInt = 3) (hp2 : ((0 : Int) ≤ (i 7457).toInt) ∧ (((i 7457).toInt + 1) ≤ 900)) : km 3 210 [.ref 116, .int x1, .int 0, .int x3] (ks i a q r) (kVI w210_116_l10_K3 i a q r (fun v i1 a1 q1 r1 => (i1 7457).toInt = ((i 7457).toInt + 1))) := by
  have hG := kG_self w210_116_l10_K3 hI hr
  refine km_ofI (q := (mi_h210, mi_c210)) rfl (by decide) (Nat.le_of_ble_eq_true rfl) ?_
  intro P hP
  have r1 : ((0 : Int) ≤ ((a 134).getD x1.toNatClampNeg 0).toInt) ∧ (((a 134).getD x1.toNatClampNeg 0).toInt ≤ 7) := hG.I.2.2.1 134 (x1.toNatClampNeg)
  have fi_7457 : ((0 : Int) ≤ (i 7457).toInt) ∧ ((i 7457).toInt ≤ 1000) := hG.I.1 7457
  refine ft_go mi_k210 4 38 [(0, .ref 116), (1, .int x1), (2, .int 0), (3, .int x3)] [.int 1, .ref 116] i a q r (by rfl) ?_
  refine ko_callN mi_k210.1 (pc := 38) (ls := [(0, .ref 116), (1, .int x1), (2, .int 0), (3, .int x3)]) (st := [.int 1, .ref 116]) (h := ks i a q r) (i := (.invokevirtual 351, 3, 209, 0, 9, 0, 464)) (mi_k210.2 _ _ (by rfl)) (ft_invS mi_pq209 (by rfl)) (cy := mi_c209) mi_pq209 rfl (kc209_116 hG.I hG.R 1 (oz1529 fi_7457.1 hp2.2)) (by decide) ?_
  intro ig2 ag2 qg2 rg2 kg2 hg2
  have hGg2 := kG_call hG kg2 (by decide +kernel)
  have z3 : (ig2 7457).toInt = ((i 7457).toInt + 1) := hg2
  have b4 : ((-2147483648 : Int) ≤ x3.toInt) ∧ (x3.toInt ≤ 2147483647) := kd_bd x3
  have b5 : ((-2147483648 : Int) ≤ x1.toInt) ∧ (x1.toInt ≤ 2147483647) := kd_bd x1
  refine ft_go mi_k210 3 44 [(0, .ref 116), (1, .int x1), (2, .int 0), (3, .int x3)] [.int (x3 + x1)] ig2 ag2 qg2 rg2 (by rfl) ?_
  exact ft_ret mi_k210 (by rfl) (hP (x3 + x1) _ _ _ _ hGg2 (oz1355 z3))
def w210_116_l12_K3 : kW := ([7457], [135], [], [])
set_option maxRecDepth 100000 in
theorem kc210_116_l12_K3 {i : Nat → Int32} {a : Nat → List Int32} {q : Nat → List Int64} {r : Nat → Nat} (hI : kI i a q) (hr : kr r) (x1 : Int32) (x3 : Int32) (hp0 : ((0 : Int) ≤ x1.toInt) ∧ (x1.toInt ≤ 49)) (hp1 : ((a 134).getD x1.toNatClampNeg 0).toInt = 3) (hp2 : ((0 : Int) ≤ (i 7457).toInt) ∧ (((i 7457).toInt + 1) ≤ 900)) : km 5 210 [.ref 116, .int x1, .int 2, .int x3] (ks i a q r) (kVI w210_116_l12_K3 i a q r (fun v i1 a1 q1 r1 => (i1 7457).toInt = ((i 7457).toInt + 1))) := by
  have hG := kG_self w210_116_l12_K3 hI hr
  refine km_ofI (q := (mi_h210, mi_c210)) rfl (by decide) (Nat.le_of_ble_eq_true rfl) ?_
  intro P hP
  have r1 : ((0 : Int) ≤ ((a 134).getD x1.toNatClampNeg 0).toInt) ∧ (((a 134).getD x1.toNatClampNeg 0).toInt ≤ 7) := hG.I.2.2.1 134 (x1.toNatClampNeg)
  have fi_7457 : ((0 : Int) ≤ (i 7457).toInt) ∧ ((i 7457).toInt ≤ 1000) := hG.I.1 7457
  refine ft_go mi_k210 5 80 [(0, .ref 116), (1, .int x1), (2, .int 2), (3, .int x3)] [.int 2, .int x1, .ref 116] i a q r (by rfl) ?_
  refine ko_callPI mi_k210.1 (pc := 80) (ls := [(0, .ref 116), (1, .int x1), (2, .int 2), (3, .int x3)]) (st := [.int 2, .int x1, .ref 116]) (h := ks i a q r) (i := (.invokestatic 357, 3, 208, 0, 9, 0, 465)) (mi_k210.2 _ _ (by rfl)) (ft_invS mi_pq208 (by rfl)) (cy := mi_c208) mi_pq208 rfl (kc208_l02 hG.I hG.R ) (by decide) ?_
  intro vg2 hg2
  have z3 : vg2.toInt = 0 := hg2
  have evvg2 := kj_eq (oz236 z3) (by decide : (0 : Int32).toInt = 0)
  subst evvg2
  refine ft_go mi_k210 1 84 [(0, .ref 116), (1, .int x1), (2, .int 2), (3, .int x3)] [.int x3, .int 0, .int x1, .ref 116] i a q r (by rfl) ?_
  refine ko_callI mi_k210.1 (pc := 84) (ls := [(0, .ref 116), (1, .int x1), (2, .int 2), (3, .int x3)]) (st := [.int x3, .int 0, .int x1, .ref 116]) (h := ks i a q r) (i := (.invokevirtual 354, 3, 210, 0, 9, 0, 463)) (mi_k210.2 _ _ (by rfl)) (ft_invS mi_pq210 (by rfl)) (cy := mi_c210) mi_pq210 rfl (kc210_116_l10_K3 hG.I hG.R x1 x3 (oz1339 hp0.1 hp0.2) (oz1421 hp1) (oz1354 fi_7457.1 hp2.2)) (by decide) ?_
  intro vg4 ig4 ag4 qg4 rg4 kg4 hg4
  have hGg4 := kG_call hG kg4 (by decide +kernel)
  have z5 : (ig4 7457).toInt = ((i 7457).toInt + 1) := hg4
  exact ft_ret mi_k210 (by rfl) (hP vg4 _ _ _ _ hGg4 (oz1355 z5))
def w210_116_l13_K3 : kW := ([7457], [135], [], [])
set_option maxRecDepth 100000 in
theorem kc210_116_l13_K3 {i : Nat → Int32} {a : Nat → List Int32} {q : Nat → List Int64} {r : Nat → Nat} (hI : kI i a q) (hr : kr r) (x1 : Int32) (x3 : Int32) (hp0 : ((0 : Int) ≤ x1.toInt) ∧ (x1.toInt ≤ 49)) (hp1 : ((a 134).getD x1.toNatClampNeg 0).toInt = 3) (hp2 : ((0 : Int) ≤ (i 7457).toInt) ∧ (((i 7457).toInt + 1) ≤ 900)) : km 7 210 [.ref 116, .int x1, .int 3, .int x3] (ks i a q r) (kVI w210_116_l13_K3 i a q r (fun v i1 a1 q1 r1 => (i1 7457).toInt = ((i 7457).toInt + 1))) := by
  have hG := kG_self w210_116_l13_K3 hI hr
  refine km_ofI (q := (mi_h210, mi_c210)) rfl (by decide) (Nat.le_of_ble_eq_true rfl) ?_
  intro P hP
  have r1 : ((0 : Int) ≤ ((a 134).getD x1.toNatClampNeg 0).toInt) ∧ (((a 134).getD x1.toNatClampNeg 0).toInt ≤ 7) := hG.I.2.2.1 134 (x1.toNatClampNeg)
  have fi_7457 : ((0 : Int) ≤ (i 7457).toInt) ∧ ((i 7457).toInt ≤ 1000) := hG.I.1 7457
  refine ft_go mi_k210 5 80 [(0, .ref 116), (1, .int x1), (2, .int 3), (3, .int x3)] [.int 3, .int x1, .ref 116] i a q r (by rfl) ?_
  refine ko_callPI mi_k210.1 (pc := 80) (ls := [(0, .ref 116), (1, .int x1), (2, .int 3), (3, .int x3)]) (st := [.int 3, .int x1, .ref 116]) (h := ks i a q r) (i := (.invokestatic 357, 3, 208, 0, 9, 0, 465)) (mi_k210.2 _ _ (by rfl)) (ft_invS mi_pq208 (by rfl)) (cy := mi_c208) mi_pq208 rfl (kc208_l03 hG.I hG.R ) (by decide) ?_
  intro vg2 hg2
  have z3 : vg2.toInt = 2 := hg2
  have evvg2 := kj_eq (oz1411 z3) (by decide : (2 : Int32).toInt = 2)
  subst evvg2
  refine ft_go mi_k210 1 84 [(0, .ref 116), (1, .int x1), (2, .int 3), (3, .int x3)] [.int x3, .int 2, .int x1, .ref 116] i a q r (by rfl) ?_
  refine ko_callI mi_k210.1 (pc := 84) (ls := [(0, .ref 116), (1, .int x1), (2, .int 3), (3, .int x3)]) (st := [.int x3, .int 2, .int x1, .ref 116]) (h := ks i a q r) (i := (.invokevirtual 354, 3, 210, 0, 9, 0, 463)) (mi_k210.2 _ _ (by rfl)) (ft_invS mi_pq210 (by rfl)) (cy := mi_c210) mi_pq210 rfl (kc210_116_l12_K3 hG.I hG.R x1 x3 (oz1339 hp0.1 hp0.2) (oz1421 hp1) (oz1354 fi_7457.1 hp2.2)) (by decide) ?_
  intro vg4 ig4 ag4 qg4 rg4 kg4 hg4
  have hGg4 := kG_call hG kg4 (by decide +kernel)
  have z5 : (ig4 7457).toInt = ((i 7457).toInt + 1) := hg4
  exact ft_ret mi_k210 (by rfl) (hP vg4 _ _ _ _ hGg4 (oz1355 z5))
def w211_116_l10_K3 : kW := ([7457], [135], [], [])
set_option maxRecDepth 100000 in
theorem kc211_116_l10_K3 {i : Nat → Int32} {a : Nat → List Int32} {q : Nat → List Int64} {r : Nat → Nat} (hI : kI i a q) (hr : kr r) (x1 : Int32) (x3 : Int32) (hp0 : ((0 : Int) ≤ x1.toInt) ∧ (x1.toInt ≤ 49)) (hp1 : ((a 134).getD x1.toNatClampNeg 0).toInt = 3) (hp2 : ((0 : Int) ≤ (i 7457).toInt) ∧ (((i 7457).toInt + 2) ≤ 900)) : km 9 211 [.ref 116, .int x1, .int 0, .int x3] (ks i a q r) (kVI w211_116_l10_K3 i a q r (fun v i1 a1 q1 r1 => (i1 7457).toInt = ((i 7457).toInt + 2))) := by
  have hG := kG_self w211_116_l10_K3 hI hr
  refine km_ofI (q := (mi_h211, mi_c211)) rfl (by decide) (Nat.le_of_ble_eq_true rfl) ?_
  intro P hP
  have r1 : ((0 : Int) ≤ ((a 134).getD x1.toNatClampNeg 0).toInt) ∧ (((a 134).getD x1.toNatClampNeg 0).toInt ≤ 7) := hG.I.2.2.1 134 (x1.toNatClampNeg)
  have fi_7457 : ((0 : Int) ≤ (i 7457).toInt) ∧ ((i 7457).toInt ≤ 1000) := hG.I.1 7457
  refine ft_go mi_k211 4 51 [(0, .ref 116), (1, .int x1), (2, .int 0), (3, .int x3)] [.int 10, .ref 116] i a q r (by rfl) ?_
  refine ko_callN mi_k211.1 (pc := 51) (ls := [(0, .ref 116), (1, .int x1), (2, .int 0), (3, .int x3)]) (st := [.int 10, .ref 116]) (h := ks i a q r) (i := (.invokevirtual 351, 3, 209, 0, 9, 0, 464)) (mi_k211.2 _ _ (by rfl)) (ft_invS mi_pq209 (by rfl)) (cy := mi_c209) mi_pq209 rfl (kc209_116 hG.I hG.R 10 (oz1528 fi_7457.1 hp2.2)) (by decide) ?_
  intro ig2 ag2 qg2 rg2 kg2 hg2
  have hGg2 := kG_call hG kg2 (by decide +kernel)
  have fig2_7457 : ((0 : Int) ≤ (ig2 7457).toInt) ∧ ((ig2 7457).toInt ≤ 1000) := hGg2.I.1 7457
  have z3 : (ig2 7457).toInt = ((i 7457).toInt + 1) := hg2
  refine ft_go mi_k211 5 61 [(0, .ref 116), (1, .int x1), (2, .int 0), (3, .int x3)] [.int x1, .ref 134, .int x1, .ref 116] ig2 ag2 qg2 rg2 (by rfl) ?_
  refine ko_iald3 mi_k211.1 (n := 50) (c := 50) (ax := (0, 0, 0, 0, 0)) (mi_k211.2 _ _ (by rfl)) (by rfl) (ksG134 _ _ _ _) (hGg2.I.2.1 134) rfl (oz3 hp0.1) (oz1336 hp0.2) ?_
  have r4 : ((0 : Int) ≤ ((ag2 134).getD x1.toNatClampNeg 0).toInt) ∧ (((ag2 134).getD x1.toNatClampNeg 0).toInt ≤ 7) := hGg2.I.2.2.1 134 (x1.toNatClampNeg)
  have u5 : ((ag2 134).getD x1.toNatClampNeg 0).toInt = ((a 134).getD x1.toNatClampNeg 0).toInt := congrArg (fun z : List Int32 => (z.getD x1.toNatClampNeg 0).toInt) (kg2.fa 134 rfl)
  refine ko_eq (x1 := (62, [(0, .ref 116), (1, .int x1), (2, .int 0), (3, .int x3)], [.int 3, .int x1, .ref 116], (0, 0), ks ig2 ag2 qg2 rg2)) (by rw [(kj_eq (oz1422 hp1 u5) (by decide) : ((ag2 134).getD x1.toNatClampNeg 0) = 3)]) ?_
  refine ft_go mi_k211 1 63 [(0, .ref 116), (1, .int x1), (2, .int 0), (3, .int x3)] [.int x3, .int 3, .int x1, .ref 116] ig2 ag2 qg2 rg2 (by rfl) ?_
  refine ko_callI mi_k211.1 (pc := 63) (ls := [(0, .ref 116), (1, .int x1), (2, .int 0), (3, .int x3)]) (st := [.int x3, .int 3, .int x1, .ref 116]) (h := ks ig2 ag2 qg2 rg2) (i := (.invokevirtual 354, 3, 210, 0, 9, 0, 463)) (mi_k211.2 _ _ (by rfl)) (ft_invS mi_pq210 (by rfl)) (cy := mi_c210) mi_pq210 rfl (kc210_116_l13_K3 hGg2.I hGg2.R x1 x3 (oz1339 hp0.1 hp0.2) (oz1422 hp1 u5) (oz1530 fig2_7457.1 hp2.2 z3)) (by decide) ?_
  intro vg6 ig6 ag6 qg6 rg6 kg6 hg6
  have hGg6 := kG_call hGg2 kg6 (by decide +kernel)
  have z7 : (ig6 7457).toInt = ((ig2 7457).toInt + 1) := hg6
  have b8 : ((-2147483648 : Int) ≤ vg6.toInt) ∧ (vg6.toInt ≤ 2147483647) := kd_bd vg6
  refine ft_go mi_k211 2 68 [(0, .ref 116), (1, .int x1), (2, .int 0), (3, .int x3)] [.int (vg6 * 2)] ig6 ag6 qg6 rg6 (by rfl) ?_
  exact ft_ret mi_k211 (by rfl) (hP (vg6 * 2) _ _ _ _ hGg6 (oz1531 z3 z7))
def w211_116_l12_K3 : kW := ([7457], [135], [], [])
set_option maxRecDepth 100000 in
theorem kc211_116_l12_K3 {i : Nat → Int32} {a : Nat → List Int32} {q : Nat → List Int64} {r : Nat → Nat} (hI : kI i a q) (hr : kr r) (x1 : Int32) (x3 : Int32) (hp0 : ((0 : Int) ≤ x1.toInt) ∧ (x1.toInt ≤ 49)) (hp1 : ((a 134).getD x1.toNatClampNeg 0).toInt = 3) (hp2 : ((0 : Int) ≤ (i 7457).toInt) ∧ (((i 7457).toInt + 3) ≤ 900)) : km 11 211 [.ref 116, .int x1, .int 2, .int x3] (ks i a q r) (kVI w211_116_l12_K3 i a q r (fun v i1 a1 q1 r1 => (i1 7457).toInt = ((i 7457).toInt + 3))) := by
  have hG := kG_self w211_116_l12_K3 hI hr
  refine km_ofI (q := (mi_h211, mi_c211)) rfl (by decide) (Nat.le_of_ble_eq_true rfl) ?_
  intro P hP
  have r1 : ((0 : Int) ≤ ((a 134).getD x1.toNatClampNeg 0).toInt) ∧ (((a 134).getD x1.toNatClampNeg 0).toInt ≤ 7) := hG.I.2.2.1 134 (x1.toNatClampNeg)
  have fi_7457 : ((0 : Int) ≤ (i 7457).toInt) ∧ ((i 7457).toInt ≤ 1000) := hG.I.1 7457
  refine ft_go mi_k211 4 72 [(0, .ref 116), (1, .int x1), (2, .int 2), (3, .int x3)] [.int 30, .ref 116] i a q r (by rfl) ?_
  refine ko_callN mi_k211.1 (pc := 72) (ls := [(0, .ref 116), (1, .int x1), (2, .int 2), (3, .int x3)]) (st := [.int 30, .ref 116]) (h := ks i a q r) (i := (.invokevirtual 351, 3, 209, 0, 9, 0, 464)) (mi_k211.2 _ _ (by rfl)) (ft_invS mi_pq209 (by rfl)) (cy := mi_c209) mi_pq209 rfl (kc209_116 hG.I hG.R 30 (oz1538 fi_7457.1 hp2.2)) (by decide) ?_
  intro ig2 ag2 qg2 rg2 kg2 hg2
  have hGg2 := kG_call hG kg2 (by decide +kernel)
  have fig2_7457 : ((0 : Int) ≤ (ig2 7457).toInt) ∧ ((ig2 7457).toInt ≤ 1000) := hGg2.I.1 7457
  have z3 : (ig2 7457).toInt = ((i 7457).toInt + 1) := hg2
  refine ft_go mi_k211 4 79 [(0, .ref 116), (1, .int x1), (2, .int 2), (3, .int x3)] [.int x3, .int 0, .int x1, .ref 116] ig2 ag2 qg2 rg2 (by rfl) ?_
  have r4 : ((0 : Int) ≤ ((ag2 134).getD x1.toNatClampNeg 0).toInt) ∧ (((ag2 134).getD x1.toNatClampNeg 0).toInt ≤ 7) := hGg2.I.2.2.1 134 (x1.toNatClampNeg)
  have u5 : ((ag2 134).getD x1.toNatClampNeg 0).toInt = ((a 134).getD x1.toNatClampNeg 0).toInt := congrArg (fun z : List Int32 => (z.getD x1.toNatClampNeg 0).toInt) (kg2.fa 134 rfl)
  refine ko_callI mi_k211.1 (pc := 79) (ls := [(0, .ref 116), (1, .int x1), (2, .int 2), (3, .int x3)]) (st := [.int x3, .int 0, .int x1, .ref 116]) (h := ks ig2 ag2 qg2 rg2) (i := (.invokevirtual 360, 3, 211, 0, 9, 0, 466)) (mi_k211.2 _ _ (by rfl)) (ft_invS mi_pq211 (by rfl)) (cy := mi_c211) mi_pq211 rfl (kc211_116_l10_K3 hGg2.I hGg2.R x1 x3 (oz1339 hp0.1 hp0.2) (oz1422 hp1 u5) (oz1539 fig2_7457.1 hp2.2 z3)) (by decide) ?_
  intro vg6 ig6 ag6 qg6 rg6 kg6 hg6
  have hGg6 := kG_call hGg2 kg6 (by decide +kernel)
  have z7 : (ig6 7457).toInt = ((ig2 7457).toInt + 2) := hg6
  refine ft_go mi_k211 1 83 [(0, .ref 116), (1, .int x1), (2, .int 2), (3, .int x3)] [.int (-vg6)] ig6 ag6 qg6 rg6 (by rfl) ?_
  exact ft_ret mi_k211 (by rfl) (hP (-vg6) _ _ _ _ hGg6 (oz1540 z3 z7))
def w211_116_l13_K3 : kW := ([7457], [135], [], [])
set_option maxRecDepth 100000 in
theorem kc211_116_l13_K3 {i : Nat → Int32} {a : Nat → List Int32} {q : Nat → List Int64} {r : Nat → Nat} (hI : kI i a q) (hr : kr r) (x1 : Int32) (x3 : Int32) (hp0 : ((0 : Int) ≤ x1.toInt) ∧ (x1.toInt ≤ 49)) (hp1 : ((a 134).getD x1.toNatClampNeg 0).toInt = 3) (hp2 : ((0 : Int) ≤ (i 7457).toInt) ∧ (((i 7457).toInt + 4) ≤ 900)) : km 13 211 [.ref 116, .int x1, .int 3, .int x3] (ks i a q r) (kVI w211_116_l13_K3 i a q r (fun v i1 a1 q1 r1 => (i1 7457).toInt = ((i 7457).toInt + 4))) := by
  have hG := kG_self w211_116_l13_K3 hI hr
  refine km_ofI (q := (mi_h211, mi_c211)) rfl (by decide) (Nat.le_of_ble_eq_true rfl) ?_
  intro P hP
  have r1 : ((0 : Int) ≤ ((a 134).getD x1.toNatClampNeg 0).toInt) ∧ (((a 134).getD x1.toNatClampNeg 0).toInt ≤ 7) := hG.I.2.2.1 134 (x1.toNatClampNeg)
  have fi_7457 : ((0 : Int) ≤ (i 7457).toInt) ∧ ((i 7457).toInt ≤ 1000) := hG.I.1 7457
  refine ft_go mi_k211 4 87 [(0, .ref 116), (1, .int x1), (2, .int 3), (3, .int x3)] [.int 41, .ref 116] i a q r (by rfl) ?_
  refine ko_callN mi_k211.1 (pc := 87) (ls := [(0, .ref 116), (1, .int x1), (2, .int 3), (3, .int x3)]) (st := [.int 41, .ref 116]) (h := ks i a q r) (i := (.invokevirtual 351, 3, 209, 0, 9, 0, 464)) (mi_k211.2 _ _ (by rfl)) (ft_invS mi_pq209 (by rfl)) (cy := mi_c209) mi_pq209 rfl (kc209_116 hG.I hG.R 41 (oz1527 fi_7457.1 hp2.2)) (by decide) ?_
  intro ig2 ag2 qg2 rg2 kg2 hg2
  have hGg2 := kG_call hG kg2 (by decide +kernel)
  have fig2_7457 : ((0 : Int) ≤ (ig2 7457).toInt) ∧ ((ig2 7457).toInt ≤ 1000) := hGg2.I.1 7457
  have z3 : (ig2 7457).toInt = ((i 7457).toInt + 1) := hg2
  have b4 : ((-2147483648 : Int) ≤ x3.toInt) ∧ (x3.toInt ≤ 2147483647) := kd_bd x3
  refine ft_go mi_k211 6 96 [(0, .ref 116), (1, .int x1), (2, .int 3), (3, .int x3)] [.int (x3 + 1), .int 2, .int x1, .ref 116] ig2 ag2 qg2 rg2 (by rfl) ?_
  have r5 : ((0 : Int) ≤ ((ag2 134).getD x1.toNatClampNeg 0).toInt) ∧ (((ag2 134).getD x1.toNatClampNeg 0).toInt ≤ 7) := hGg2.I.2.2.1 134 (x1.toNatClampNeg)
  have u6 : ((ag2 134).getD x1.toNatClampNeg 0).toInt = ((a 134).getD x1.toNatClampNeg 0).toInt := congrArg (fun z : List Int32 => (z.getD x1.toNatClampNeg 0).toInt) (kg2.fa 134 rfl)
  refine ko_callI mi_k211.1 (pc := 96) (ls := [(0, .ref 116), (1, .int x1), (2, .int 3), (3, .int x3)]) (st := [.int (x3 + 1), .int 2, .int x1, .ref 116]) (h := ks ig2 ag2 qg2 rg2) (i := (.invokevirtual 360, 3, 211, 0, 9, 0, 466)) (mi_k211.2 _ _ (by rfl)) (ft_invS mi_pq211 (by rfl)) (cy := mi_c211) mi_pq211 rfl (kc211_116_l12_K3 hGg2.I hGg2.R x1 (x3 + 1) (oz1339 hp0.1 hp0.2) (oz1422 hp1 u6) (oz1551 fig2_7457.1 hp2.2 z3)) (by decide) ?_
  intro vg7 ig7 ag7 qg7 rg7 kg7 hg7
  have hGg7 := kG_call hGg2 kg7 (by decide +kernel)
  have z8 : (ig7 7457).toInt = ((ig2 7457).toInt + 3) := hg7
  exact ft_ret mi_k211 (by rfl) (hP vg7 _ _ _ _ hGg7 (oz1552 z3 z8))
def w212_116_l10_K3 : kW := ([7457], [135], [], [])
set_option maxRecDepth 100000 in
theorem kc212_116_l10_K3 {i : Nat → Int32} {a : Nat → List Int32} {q : Nat → List Int64} {r : Nat → Nat} (hI : kI i a q) (hr : kr r) (x1 : Int32) (x3 : Int32) (hp0 : ((0 : Int) ≤ x1.toInt) ∧ (x1.toInt ≤ 49)) (hp1 : ((a 134).getD x1.toNatClampNeg 0).toInt = 3) (hp2 : ((0 : Int) ≤ (i 7457).toInt) ∧ (((i 7457).toInt + 1) ≤ 900)) : km 3 212 [.ref 116, .int x1, .int 0, .int x3] (ks i a q r) (kVI w212_116_l10_K3 i a q r (fun v i1 a1 q1 r1 => (i1 7457).toInt = ((i 7457).toInt + 1))) := by
  have hG := kG_self w212_116_l10_K3 hI hr
  refine km_ofI (q := (mi_h212, mi_c212)) rfl (by decide) (Nat.le_of_ble_eq_true rfl) ?_
  intro P hP
  have r1 : ((0 : Int) ≤ ((a 134).getD x1.toNatClampNeg 0).toInt) ∧ (((a 134).getD x1.toNatClampNeg 0).toInt ≤ 7) := hG.I.2.2.1 134 (x1.toNatClampNeg)
  have fi_7457 : ((0 : Int) ≤ (i 7457).toInt) ∧ ((i 7457).toInt ≤ 1000) := hG.I.1 7457
  refine ft_go mi_k212 4 39 [(0, .ref 116), (1, .int x1), (2, .int 0), (3, .int x3)] [.int 11, .ref 116] i a q r (by rfl) ?_
  refine ko_callN mi_k212.1 (pc := 39) (ls := [(0, .ref 116), (1, .int x1), (2, .int 0), (3, .int x3)]) (st := [.int 11, .ref 116]) (h := ks i a q r) (i := (.invokevirtual 351, 3, 209, 0, 9, 0, 464)) (mi_k212.2 _ _ (by rfl)) (ft_invS mi_pq209 (by rfl)) (cy := mi_c209) mi_pq209 rfl (kc209_116 hG.I hG.R 11 (oz1529 fi_7457.1 hp2.2)) (by decide) ?_
  intro ig2 ag2 qg2 rg2 kg2 hg2
  have hGg2 := kG_call hG kg2 (by decide +kernel)
  have z3 : (ig2 7457).toInt = ((i 7457).toInt + 1) := hg2
  refine ft_go mi_k212 3 45 [(0, .ref 116), (1, .int x1), (2, .int 0), (3, .int x3)] [.int (x3 ^^^ x1)] ig2 ag2 qg2 rg2 (by rfl) ?_
  exact ft_ret mi_k212 (by rfl) (hP (x3 ^^^ x1) _ _ _ _ hGg2 (oz1355 z3))
def w212_116_l12_K3 : kW := ([7457], [135], [], [])
set_option maxRecDepth 100000 in
theorem kc212_116_l12_K3 {i : Nat → Int32} {a : Nat → List Int32} {q : Nat → List Int64} {r : Nat → Nat} (hI : kI i a q) (hr : kr r) (x1 : Int32) (x3 : Int32) (hp0 : ((0 : Int) ≤ x1.toInt) ∧ (x1.toInt ≤ 49)) (hp1 : ((a 134).getD x1.toNatClampNeg 0).toInt = 3) (hp2 : ((0 : Int) ≤ (i 7457).toInt) ∧ (((i 7457).toInt + 1) ≤ 900)) : km 5 212 [.ref 116, .int x1, .int 2, .int x3] (ks i a q r) (kVI w212_116_l12_K3 i a q r (fun v i1 a1 q1 r1 => (i1 7457).toInt = ((i 7457).toInt + 1))) := by
  have hG := kG_self w212_116_l12_K3 hI hr
  refine km_ofI (q := (mi_h212, mi_c212)) rfl (by decide) (Nat.le_of_ble_eq_true rfl) ?_
  intro P hP
  have r1 : ((0 : Int) ≤ ((a 134).getD x1.toNatClampNeg 0).toInt) ∧ (((a 134).getD x1.toNatClampNeg 0).toInt ≤ 7) := hG.I.2.2.1 134 (x1.toNatClampNeg)
  have fi_7457 : ((0 : Int) ≤ (i 7457).toInt) ∧ ((i 7457).toInt ≤ 1000) := hG.I.1 7457
  refine ft_go mi_k212 5 96 [(0, .ref 116), (1, .int x1), (2, .int 2), (3, .int x3)] [.int 2, .int x1, .ref 116] i a q r (by rfl) ?_
  refine ko_callPI mi_k212.1 (pc := 96) (ls := [(0, .ref 116), (1, .int x1), (2, .int 2), (3, .int x3)]) (st := [.int 2, .int x1, .ref 116]) (h := ks i a q r) (i := (.invokestatic 357, 3, 208, 0, 9, 0, 465)) (mi_k212.2 _ _ (by rfl)) (ft_invS mi_pq208 (by rfl)) (cy := mi_c208) mi_pq208 rfl (kc208_l02 hG.I hG.R ) (by decide) ?_
  intro vg2 hg2
  have z3 : vg2.toInt = 0 := hg2
  have evvg2 := kj_eq (oz236 z3) (by decide : (0 : Int32).toInt = 0)
  subst evvg2
  refine ft_go mi_k212 1 100 [(0, .ref 116), (1, .int x1), (2, .int 2), (3, .int x3)] [.int x3, .int 0, .int x1, .ref 116] i a q r (by rfl) ?_
  refine ko_callI mi_k212.1 (pc := 100) (ls := [(0, .ref 116), (1, .int x1), (2, .int 2), (3, .int x3)]) (st := [.int x3, .int 0, .int x1, .ref 116]) (h := ks i a q r) (i := (.invokevirtual 363, 3, 212, 0, 9, 0, 467)) (mi_k212.2 _ _ (by rfl)) (ft_invS mi_pq212 (by rfl)) (cy := mi_c212) mi_pq212 rfl (kc212_116_l10_K3 hG.I hG.R x1 x3 (oz1339 hp0.1 hp0.2) (oz1421 hp1) (oz1354 fi_7457.1 hp2.2)) (by decide) ?_
  intro vg4 ig4 ag4 qg4 rg4 kg4 hg4
  have hGg4 := kG_call hG kg4 (by decide +kernel)
  have z5 : (ig4 7457).toInt = ((i 7457).toInt + 1) := hg4
  exact ft_ret mi_k212 (by rfl) (hP vg4 _ _ _ _ hGg4 (oz1355 z5))
def w212_116_l13_K3 : kW := ([7457], [135], [], [])
set_option maxRecDepth 100000 in
theorem kc212_116_l13_K3 {i : Nat → Int32} {a : Nat → List Int32} {q : Nat → List Int64} {r : Nat → Nat} (hI : kI i a q) (hr : kr r) (x1 : Int32) (x3 : Int32) (hp0 : ((0 : Int) ≤ x1.toInt) ∧ (x1.toInt ≤ 49)) (hp1 : ((a 134).getD x1.toNatClampNeg 0).toInt = 3) (hp2 : ((0 : Int) ≤ (i 7457).toInt) ∧ (((i 7457).toInt + 2) ≤ 900)) : km 7 212 [.ref 116, .int x1, .int 3, .int x3] (ks i a q r) (kVI w212_116_l13_K3 i a q r (fun v i1 a1 q1 r1 => (i1 7457).toInt = ((i 7457).toInt + 2))) := by
  have hG := kG_self w212_116_l13_K3 hI hr
  refine km_ofI (q := (mi_h212, mi_c212)) rfl (by decide) (Nat.le_of_ble_eq_true rfl) ?_
  intro P hP
  have r1 : ((0 : Int) ≤ ((a 134).getD x1.toNatClampNeg 0).toInt) ∧ (((a 134).getD x1.toNatClampNeg 0).toInt ≤ 7) := hG.I.2.2.1 134 (x1.toNatClampNeg)
  have fi_7457 : ((0 : Int) ≤ (i 7457).toInt) ∧ ((i 7457).toInt ≤ 1000) := hG.I.1 7457
  refine ft_go mi_k212 4 49 [(0, .ref 116), (1, .int x1), (2, .int 3), (3, .int x3)] [.int 40, .ref 116] i a q r (by rfl) ?_
  refine ko_callN mi_k212.1 (pc := 49) (ls := [(0, .ref 116), (1, .int x1), (2, .int 3), (3, .int x3)]) (st := [.int 40, .ref 116]) (h := ks i a q r) (i := (.invokevirtual 351, 3, 209, 0, 9, 0, 464)) (mi_k212.2 _ _ (by rfl)) (ft_invS mi_pq209 (by rfl)) (cy := mi_c209) mi_pq209 rfl (kc209_116 hG.I hG.R 40 (oz1528 fi_7457.1 hp2.2)) (by decide) ?_
  intro ig2 ag2 qg2 rg2 kg2 hg2
  have hGg2 := kG_call hG kg2 (by decide +kernel)
  have fig2_7457 : ((0 : Int) ≤ (ig2 7457).toInt) ∧ ((ig2 7457).toInt ≤ 1000) := hGg2.I.1 7457
  have z3 : (ig2 7457).toInt = ((i 7457).toInt + 1) := hg2
  refine ft_go mi_k212 4 56 [(0, .ref 116), (1, .int x1), (2, .int 3), (3, .int x3)] [.int x3, .int 2, .int x1, .ref 116] ig2 ag2 qg2 rg2 (by rfl) ?_
  have r4 : ((0 : Int) ≤ ((ag2 134).getD x1.toNatClampNeg 0).toInt) ∧ (((ag2 134).getD x1.toNatClampNeg 0).toInt ≤ 7) := hGg2.I.2.2.1 134 (x1.toNatClampNeg)
  have u5 : ((ag2 134).getD x1.toNatClampNeg 0).toInt = ((a 134).getD x1.toNatClampNeg 0).toInt := congrArg (fun z : List Int32 => (z.getD x1.toNatClampNeg 0).toInt) (kg2.fa 134 rfl)
  refine ko_callI mi_k212.1 (pc := 56) (ls := [(0, .ref 116), (1, .int x1), (2, .int 3), (3, .int x3)]) (st := [.int x3, .int 2, .int x1, .ref 116]) (h := ks ig2 ag2 qg2 rg2) (i := (.invokevirtual 363, 3, 212, 0, 9, 0, 467)) (mi_k212.2 _ _ (by rfl)) (ft_invS mi_pq212 (by rfl)) (cy := mi_c212) mi_pq212 rfl (kc212_116_l12_K3 hGg2.I hGg2.R x1 x3 (oz1339 hp0.1 hp0.2) (oz1422 hp1 u5) (oz1530 fig2_7457.1 hp2.2 z3)) (by decide) ?_
  intro vg6 ig6 ag6 qg6 rg6 kg6 hg6
  have hGg6 := kG_call hGg2 kg6 (by decide +kernel)
  have z7 : (ig6 7457).toInt = ((ig2 7457).toInt + 1) := hg6
  have b8 : ((-2147483648 : Int) ≤ vg6.toInt) ∧ (vg6.toInt ≤ 2147483647) := kd_bd vg6
  refine ft_go mi_k212 2 61 [(0, .ref 116), (1, .int x1), (2, .int 3), (3, .int x3)] [.int (vg6 * 3)] ig6 ag6 qg6 rg6 (by rfl) ?_
  exact ft_ret mi_k212 (by rfl) (hP (vg6 * 3) _ _ _ _ hGg6 (oz1531 z3 z7))
def w213_116_l10_K3 : kW := ([7457], [135], [], [])
set_option maxRecDepth 100000 in
theorem kc213_116_l10_K3 {i : Nat → Int32} {a : Nat → List Int32} {q : Nat → List Int64} {r : Nat → Nat} (hI : kI i a q) (hr : kr r) (x1 : Int32) (x3 : Int32) (hp0 : ((0 : Int) ≤ x1.toInt) ∧ (x1.toInt ≤ 49)) (hp1 : ((a 134).getD x1.toNatClampNeg 0).toInt = 3) (hp2 : ((0 : Int) ≤ (i 7457).toInt) ∧ (((i 7457).toInt + 7) ≤ 900)) : km 15 213 [.ref 116, .int x1, .int 0, .int x3] (ks i a q r) (kVI w213_116_l10_K3 i a q r (fun v i1 a1 q1 r1 => (i1 7457).toInt = ((i 7457).toInt + 7))) := by
  have hG := kG_self w213_116_l10_K3 hI hr
  refine km_ofI (q := (mi_h213, mi_c213)) rfl (by decide) (Nat.le_of_ble_eq_true rfl) ?_
  intro P hP
  have r1 : ((0 : Int) ≤ ((a 134).getD x1.toNatClampNeg 0).toInt) ∧ (((a 134).getD x1.toNatClampNeg 0).toInt ≤ 7) := hG.I.2.2.1 134 (x1.toNatClampNeg)
  have fi_7457 : ((0 : Int) ≤ (i 7457).toInt) ∧ ((i 7457).toInt ≤ 1000) := hG.I.1 7457
  refine ft_go mi_k213 4 38 [(0, .ref 116), (1, .int x1), (2, .int 0), (3, .int x3)] [.int 2, .ref 116] i a q r (by rfl) ?_
  refine ko_callN mi_k213.1 (pc := 38) (ls := [(0, .ref 116), (1, .int x1), (2, .int 0), (3, .int x3)]) (st := [.int 2, .ref 116]) (h := ks i a q r) (i := (.invokevirtual 351, 3, 209, 0, 9, 0, 464)) (mi_k213.2 _ _ (by rfl)) (ft_invS mi_pq209 (by rfl)) (cy := mi_c209) mi_pq209 rfl (kc209_116 hG.I hG.R 2 (oz1550 fi_7457.1 hp2.2)) (by decide) ?_
  intro ig2 ag2 qg2 rg2 kg2 hg2
  have hGg2 := kG_call hG kg2 (by decide +kernel)
  have fig2_7457 : ((0 : Int) ≤ (ig2 7457).toInt) ∧ ((ig2 7457).toInt ≤ 1000) := hGg2.I.1 7457
  have z3 : (ig2 7457).toInt = ((i 7457).toInt + 1) := hg2
  refine ft_go mi_k213 5 48 [(0, .ref 116), (1, .int x1), (2, .int 0), (3, .int x3)] [.int x1, .ref 134, .int x1, .ref 116] ig2 ag2 qg2 rg2 (by rfl) ?_
  refine ko_iald3 mi_k213.1 (n := 50) (c := 50) (ax := (0, 0, 0, 0, 0)) (mi_k213.2 _ _ (by rfl)) (by rfl) (ksG134 _ _ _ _) (hGg2.I.2.1 134) rfl (oz3 hp0.1) (oz1336 hp0.2) ?_
  have r4 : ((0 : Int) ≤ ((ag2 134).getD x1.toNatClampNeg 0).toInt) ∧ (((ag2 134).getD x1.toNatClampNeg 0).toInt ≤ 7) := hGg2.I.2.2.1 134 (x1.toNatClampNeg)
  have u5 : ((ag2 134).getD x1.toNatClampNeg 0).toInt = ((a 134).getD x1.toNatClampNeg 0).toInt := congrArg (fun z : List Int32 => (z.getD x1.toNatClampNeg 0).toInt) (kg2.fa 134 rfl)
  refine ko_eq (x1 := (49, [(0, .ref 116), (1, .int x1), (2, .int 0), (3, .int x3)], [.int 3, .int x1, .ref 116], (0, 0), ks ig2 ag2 qg2 rg2)) (by rw [(kj_eq (oz1422 hp1 u5) (by decide) : ((ag2 134).getD x1.toNatClampNeg 0) = 3)]) ?_
  refine ft_go mi_k213 1 50 [(0, .ref 116), (1, .int x1), (2, .int 0), (3, .int x3)] [.int x3, .int 3, .int x1, .ref 116] ig2 ag2 qg2 rg2 (by rfl) ?_
  refine ko_callI mi_k213.1 (pc := 50) (ls := [(0, .ref 116), (1, .int x1), (2, .int 0), (3, .int x3)]) (st := [.int x3, .int 3, .int x1, .ref 116]) (h := ks ig2 ag2 qg2 rg2) (i := (.invokevirtual 360, 3, 211, 0, 9, 0, 466)) (mi_k213.2 _ _ (by rfl)) (ft_invS mi_pq211 (by rfl)) (cy := mi_c211) mi_pq211 rfl (kc211_116_l13_K3 hGg2.I hGg2.R x1 x3 (oz1339 hp0.1 hp0.2) (oz1422 hp1 u5) (oz1553 fig2_7457.1 hp2.2 z3)) (by decide) ?_
  intro vg6 ig6 ag6 qg6 rg6 kg6 hg6
  have hGg6 := kG_call hGg2 kg6 (by decide +kernel)
  have fig6_7457 : ((0 : Int) ≤ (ig6 7457).toInt) ∧ ((ig6 7457).toInt ≤ 1000) := hGg6.I.1 7457
  have z7 : (ig6 7457).toInt = ((ig2 7457).toInt + 4) := hg6
  refine ft_go mi_k213 7 64 [(4, .int vg6), (0, .ref 116), (1, .int x1), (2, .int 0), (3, .int x3)] [.int x1, .ref 134, .int x1, .ref 116, .int vg6] ig6 ag6 qg6 rg6 (by rfl) ?_
  refine ko_iald3 mi_k213.1 (n := 50) (c := 50) (ax := (0, 0, 0, 0, 0)) (mi_k213.2 _ _ (by rfl)) (by rfl) (ksG134 _ _ _ _) (hGg6.I.2.1 134) rfl (oz3 hp0.1) (oz1336 hp0.2) ?_
  have r8 : ((0 : Int) ≤ ((ag6 134).getD x1.toNatClampNeg 0).toInt) ∧ (((ag6 134).getD x1.toNatClampNeg 0).toInt ≤ 7) := hGg6.I.2.2.1 134 (x1.toNatClampNeg)
  have u9 : ((ag6 134).getD x1.toNatClampNeg 0).toInt = ((ag2 134).getD x1.toNatClampNeg 0).toInt := congrArg (fun z : List Int32 => (z.getD x1.toNatClampNeg 0).toInt) (kg6.fa 134 rfl)
  refine ko_eq (x1 := (65, [(4, .int vg6), (0, .ref 116), (1, .int x1), (2, .int 0), (3, .int x3)], [.int 3, .int x1, .ref 116, .int vg6], (0, 0), ks ig6 ag6 qg6 rg6)) (by rw [(kj_eq (oz1554 hp1 u5 u9) (by decide) : ((ag6 134).getD x1.toNatClampNeg 0) = 3)]) ?_
  refine ft_go mi_k213 1 66 [(4, .int vg6), (0, .ref 116), (1, .int x1), (2, .int 0), (3, .int x3)] [.int 1, .int 3, .int x1, .ref 116, .int vg6] ig6 ag6 qg6 rg6 (by rfl) ?_
  refine ko_callI mi_k213.1 (pc := 66) (ls := [(4, .int vg6), (0, .ref 116), (1, .int x1), (2, .int 0), (3, .int x3)]) (st := [.int 1, .int 3, .int x1, .ref 116, .int vg6]) (h := ks ig6 ag6 qg6 rg6) (i := (.invokevirtual 363, 3, 212, 0, 9, 0, 467)) (mi_k213.2 _ _ (by rfl)) (ft_invS mi_pq212 (by rfl)) (cy := mi_c212) mi_pq212 rfl (kc212_116_l13_K3 hGg6.I hGg6.R x1 1 (oz1339 hp0.1 hp0.2) (oz1554 hp1 u5 u9) (oz1555 fig6_7457.1 hp2.2 z3 z7)) (by decide) ?_
  intro vg10 ig10 ag10 qg10 rg10 kg10 hg10
  have hGg10 := kG_call hGg6 kg10 (by decide +kernel)
  have z11 : (ig10 7457).toInt = ((ig6 7457).toInt + 2) := hg10
  have b12 : ((-2147483648 : Int) ≤ vg6.toInt) ∧ (vg6.toInt ≤ 2147483647) := kd_bd vg6
  have b13 : ((-2147483648 : Int) ≤ vg10.toInt) ∧ (vg10.toInt ≤ 2147483647) := kd_bd vg10
  refine ft_go mi_k213 1 70 [(4, .int vg6), (0, .ref 116), (1, .int x1), (2, .int 0), (3, .int x3)] [.int (vg6 - vg10)] ig10 ag10 qg10 rg10 (by rfl) ?_
  exact ft_ret mi_k213 (by rfl) (hP (vg6 - vg10) _ _ _ _ hGg10 (oz1556 z11 z3 z7))
def w213_116_l12_K3 : kW := ([7457], [135], [], [])
set_option maxRecDepth 100000 in
theorem kc213_116_l12_K3 {i : Nat → Int32} {a : Nat → List Int32} {q : Nat → List Int64} {r : Nat → Nat} (hI : kI i a q) (hr : kr r) (x1 : Int32) (x3 : Int32) (hp0 : ((0 : Int) ≤ x1.toInt) ∧ (x1.toInt ≤ 49)) (hp1 : ((a 134).getD x1.toNatClampNeg 0).toInt = 3) (hp2 : ((0 : Int) ≤ (i 7457).toInt) ∧ (((i 7457).toInt + 7) ≤ 900)) : km 17 213 [.ref 116, .int x1, .int 2, .int x3] (ks i a q r) (kVI w213_116_l12_K3 i a q r (fun v i1 a1 q1 r1 => (i1 7457).toInt = ((i 7457).toInt + 7))) := by
  have hG := kG_self w213_116_l12_K3 hI hr
  refine km_ofI (q := (mi_h213, mi_c213)) rfl (by decide) (Nat.le_of_ble_eq_true rfl) ?_
  intro P hP
  have r1 : ((0 : Int) ≤ ((a 134).getD x1.toNatClampNeg 0).toInt) ∧ (((a 134).getD x1.toNatClampNeg 0).toInt ≤ 7) := hG.I.2.2.1 134 (x1.toNatClampNeg)
  have fi_7457 : ((0 : Int) ≤ (i 7457).toInt) ∧ ((i 7457).toInt ≤ 1000) := hG.I.1 7457
  refine ft_go mi_k213 5 106 [(0, .ref 116), (1, .int x1), (2, .int 2), (3, .int x3)] [.int 2, .int x1, .ref 116] i a q r (by rfl) ?_
  refine ko_callPI mi_k213.1 (pc := 106) (ls := [(0, .ref 116), (1, .int x1), (2, .int 2), (3, .int x3)]) (st := [.int 2, .int x1, .ref 116]) (h := ks i a q r) (i := (.invokestatic 357, 3, 208, 0, 9, 0, 465)) (mi_k213.2 _ _ (by rfl)) (ft_invS mi_pq208 (by rfl)) (cy := mi_c208) mi_pq208 rfl (kc208_l02 hG.I hG.R ) (by decide) ?_
  intro vg2 hg2
  have z3 : vg2.toInt = 0 := hg2
  have evvg2 := kj_eq (oz236 z3) (by decide : (0 : Int32).toInt = 0)
  subst evvg2
  refine ft_go mi_k213 1 110 [(0, .ref 116), (1, .int x1), (2, .int 2), (3, .int x3)] [.int x3, .int 0, .int x1, .ref 116] i a q r (by rfl) ?_
  refine ko_callI mi_k213.1 (pc := 110) (ls := [(0, .ref 116), (1, .int x1), (2, .int 2), (3, .int x3)]) (st := [.int x3, .int 0, .int x1, .ref 116]) (h := ks i a q r) (i := (.invokevirtual 366, 3, 213, 0, 9, 0, 468)) (mi_k213.2 _ _ (by rfl)) (ft_invS mi_pq213 (by rfl)) (cy := mi_c213) mi_pq213 rfl (kc213_116_l10_K3 hG.I hG.R x1 x3 (oz1339 hp0.1 hp0.2) (oz1421 hp1) (oz1557 fi_7457.1 hp2.2)) (by decide) ?_
  intro vg4 ig4 ag4 qg4 rg4 kg4 hg4
  have hGg4 := kG_call hG kg4 (by decide +kernel)
  have z5 : (ig4 7457).toInt = ((i 7457).toInt + 7) := hg4
  exact ft_ret mi_k213 (by rfl) (hP vg4 _ _ _ _ hGg4 (oz1558 z5))
def w213_116_l13_K3 : kW := ([7457], [135], [], [])
set_option maxRecDepth 100000 in
theorem kc213_116_l13_K3 {i : Nat → Int32} {a : Nat → List Int32} {q : Nat → List Int64} {r : Nat → Nat} (hI : kI i a q) (hr : kr r) (x1 : Int32) (x3 : Int32) (hp0 : ((0 : Int) ≤ x1.toInt) ∧ (x1.toInt ≤ 49)) (hp1 : ((a 134).getD x1.toNatClampNeg 0).toInt = 3) (hp2 : ((0 : Int) ≤ (i 7457).toInt) ∧ (((i 7457).toInt + 7) ≤ 900)) : km 19 213 [.ref 116, .int x1, .int 3, .int x3] (ks i a q r) (kVI w213_116_l13_K3 i a q r (fun v i1 a1 q1 r1 => (i1 7457).toInt = ((i 7457).toInt + 7))) := by
  have hG := kG_self w213_116_l13_K3 hI hr
  refine km_ofI (q := (mi_h213, mi_c213)) rfl (by decide) (Nat.le_of_ble_eq_true rfl) ?_
  intro P hP
  have r1 : ((0 : Int) ≤ ((a 134).getD x1.toNatClampNeg 0).toInt) ∧ (((a 134).getD x1.toNatClampNeg 0).toInt ≤ 7) := hG.I.2.2.1 134 (x1.toNatClampNeg)
  have fi_7457 : ((0 : Int) ≤ (i 7457).toInt) ∧ ((i 7457).toInt ≤ 1000) := hG.I.1 7457
  refine ft_go mi_k213 5 106 [(0, .ref 116), (1, .int x1), (2, .int 3), (3, .int x3)] [.int 3, .int x1, .ref 116] i a q r (by rfl) ?_
  refine ko_callPI mi_k213.1 (pc := 106) (ls := [(0, .ref 116), (1, .int x1), (2, .int 3), (3, .int x3)]) (st := [.int 3, .int x1, .ref 116]) (h := ks i a q r) (i := (.invokestatic 357, 3, 208, 0, 9, 0, 465)) (mi_k213.2 _ _ (by rfl)) (ft_invS mi_pq208 (by rfl)) (cy := mi_c208) mi_pq208 rfl (kc208_l03 hG.I hG.R ) (by decide) ?_
  intro vg2 hg2
  have z3 : vg2.toInt = 2 := hg2
  have evvg2 := kj_eq (oz1411 z3) (by decide : (2 : Int32).toInt = 2)
  subst evvg2
  refine ft_go mi_k213 1 110 [(0, .ref 116), (1, .int x1), (2, .int 3), (3, .int x3)] [.int x3, .int 2, .int x1, .ref 116] i a q r (by rfl) ?_
  refine ko_callI mi_k213.1 (pc := 110) (ls := [(0, .ref 116), (1, .int x1), (2, .int 3), (3, .int x3)]) (st := [.int x3, .int 2, .int x1, .ref 116]) (h := ks i a q r) (i := (.invokevirtual 366, 3, 213, 0, 9, 0, 468)) (mi_k213.2 _ _ (by rfl)) (ft_invS mi_pq213 (by rfl)) (cy := mi_c213) mi_pq213 rfl (kc213_116_l12_K3 hG.I hG.R x1 x3 (oz1339 hp0.1 hp0.2) (oz1421 hp1) (oz1557 fi_7457.1 hp2.2)) (by decide) ?_
  intro vg4 ig4 ag4 qg4 rg4 kg4 hg4
  have hGg4 := kG_call hG kg4 (by decide +kernel)
  have z5 : (ig4 7457).toInt = ((i 7457).toInt + 7) := hg4
  exact ft_ret mi_k213 (by rfl) (hP vg4 _ _ _ _ hGg4 (oz1558 z5))
set_option maxRecDepth 100000 in
theorem kc208_l04 {i : Nat → Int32} {a : Nat → List Int32} {q : Nat → List Int64} {r : Nat → Nat} (hI : kI i a q) (hr : kr r)  : km 1 208 [.int 4] (ks i a q r) (kPI (ks i a q r) (fun v => v.toInt = 1)) := by
  have hG := kG_self kW0 hI hr
  refine km_ofPI (q := (mi_h208, mi_c208)) rfl (by decide) (Nat.le_of_ble_eq_true rfl) ?_
  intro P hP
  refine ft_go mi_k208 3 39 [(0, .int 4)] [.int 1] i a q r (by rfl) ?_
  exact ft_ret mi_k208 (by rfl) (hP 1 (oz1381 kn1))
def w210_116_l10_K4 : kW := ([7457], [135], [], [])
set_option maxRecDepth 100000 in
theorem kc210_116_l10_K4 {i : Nat → Int32} {a : Nat → List Int32} {q : Nat → List Int64} {r : Nat → Nat} (hI : kI i a q) (hr : kr r) (x1 : Int32) (x3 : Int32) (hp0 : ((0 : Int) ≤ x1.toInt) ∧ (x1.toInt ≤ 49)) (hp1 : ((a 134).getD x1.toNatClampNeg 0).toInt = 4) (hp2 : ((0 : Int) ≤ (i 7457).toInt) ∧ (((i 7457).toInt + 1) ≤ 900)) : km 3 210 [.ref 116, .int x1, .int 0, .int x3] (ks i a q r) (kVI w210_116_l10_K4 i a q r (fun v i1 a1 q1 r1 => (i1 7457).toInt = ((i 7457).toInt + 1))) := by
  have hG := kG_self w210_116_l10_K4 hI hr
  refine km_ofI (q := (mi_h210, mi_c210)) rfl (by decide) (Nat.le_of_ble_eq_true rfl) ?_
  intro P hP
  have r1 : ((0 : Int) ≤ ((a 134).getD x1.toNatClampNeg 0).toInt) ∧ (((a 134).getD x1.toNatClampNeg 0).toInt ≤ 7) := hG.I.2.2.1 134 (x1.toNatClampNeg)
  have fi_7457 : ((0 : Int) ≤ (i 7457).toInt) ∧ ((i 7457).toInt ≤ 1000) := hG.I.1 7457
  refine ft_go mi_k210 4 38 [(0, .ref 116), (1, .int x1), (2, .int 0), (3, .int x3)] [.int 1, .ref 116] i a q r (by rfl) ?_
  refine ko_callN mi_k210.1 (pc := 38) (ls := [(0, .ref 116), (1, .int x1), (2, .int 0), (3, .int x3)]) (st := [.int 1, .ref 116]) (h := ks i a q r) (i := (.invokevirtual 351, 3, 209, 0, 9, 0, 464)) (mi_k210.2 _ _ (by rfl)) (ft_invS mi_pq209 (by rfl)) (cy := mi_c209) mi_pq209 rfl (kc209_116 hG.I hG.R 1 (oz1529 fi_7457.1 hp2.2)) (by decide) ?_
  intro ig2 ag2 qg2 rg2 kg2 hg2
  have hGg2 := kG_call hG kg2 (by decide +kernel)
  have z3 : (ig2 7457).toInt = ((i 7457).toInt + 1) := hg2
  have b4 : ((-2147483648 : Int) ≤ x3.toInt) ∧ (x3.toInt ≤ 2147483647) := kd_bd x3
  have b5 : ((-2147483648 : Int) ≤ x1.toInt) ∧ (x1.toInt ≤ 2147483647) := kd_bd x1
  refine ft_go mi_k210 3 44 [(0, .ref 116), (1, .int x1), (2, .int 0), (3, .int x3)] [.int (x3 + x1)] ig2 ag2 qg2 rg2 (by rfl) ?_
  exact ft_ret mi_k210 (by rfl) (hP (x3 + x1) _ _ _ _ hGg2 (oz1355 z3))
def w210_116_l11_K4 : kW := ([7457], [135], [], [])
set_option maxRecDepth 100000 in
theorem kc210_116_l11_K4 {i : Nat → Int32} {a : Nat → List Int32} {q : Nat → List Int64} {r : Nat → Nat} (hI : kI i a q) (hr : kr r) (x1 : Int32) (x3 : Int32) (hp0 : ((0 : Int) ≤ x1.toInt) ∧ (x1.toInt ≤ 49)) (hp1 : ((a 134).getD x1.toNatClampNeg 0).toInt = 4) (hp2 : ((0 : Int) ≤ (i 7457).toInt) ∧ (((i 7457).toInt + 2) ≤ 900)) : km 5 210 [.ref 116, .int x1, .int 1, .int x3] (ks i a q r) (kVI w210_116_l11_K4 i a q r (fun v i1 a1 q1 r1 => (i1 7457).toInt = ((i 7457).toInt + 2))) := by
  have hG := kG_self w210_116_l11_K4 hI hr
  refine km_ofI (q := (mi_h210, mi_c210)) rfl (by decide) (Nat.le_of_ble_eq_true rfl) ?_
  intro P hP
  have r1 : ((0 : Int) ≤ ((a 134).getD x1.toNatClampNeg 0).toInt) ∧ (((a 134).getD x1.toNatClampNeg 0).toInt ≤ 7) := hG.I.2.2.1 134 (x1.toNatClampNeg)
  have fi_7457 : ((0 : Int) ≤ (i 7457).toInt) ∧ ((i 7457).toInt ≤ 1000) := hG.I.1 7457
  refine ft_go mi_k210 4 48 [(0, .ref 116), (1, .int x1), (2, .int 1), (3, .int x3)] [.int 20, .ref 116] i a q r (by rfl) ?_
  refine ko_callN mi_k210.1 (pc := 48) (ls := [(0, .ref 116), (1, .int x1), (2, .int 1), (3, .int x3)]) (st := [.int 20, .ref 116]) (h := ks i a q r) (i := (.invokevirtual 351, 3, 209, 0, 9, 0, 464)) (mi_k210.2 _ _ (by rfl)) (ft_invS mi_pq209 (by rfl)) (cy := mi_c209) mi_pq209 rfl (kc209_116 hG.I hG.R 20 (oz1528 fi_7457.1 hp2.2)) (by decide) ?_
  intro ig2 ag2 qg2 rg2 kg2 hg2
  have hGg2 := kG_call hG kg2 (by decide +kernel)
  have fig2_7457 : ((0 : Int) ≤ (ig2 7457).toInt) ∧ ((ig2 7457).toInt ≤ 1000) := hGg2.I.1 7457
  have z3 : (ig2 7457).toInt = ((i 7457).toInt + 1) := hg2
  refine ft_go mi_k210 4 55 [(0, .ref 116), (1, .int x1), (2, .int 1), (3, .int x3)] [.int x3, .int 0, .int x1, .ref 116] ig2 ag2 qg2 rg2 (by rfl) ?_
  have r4 : ((0 : Int) ≤ ((ag2 134).getD x1.toNatClampNeg 0).toInt) ∧ (((ag2 134).getD x1.toNatClampNeg 0).toInt ≤ 7) := hGg2.I.2.2.1 134 (x1.toNatClampNeg)
  have u5 : ((ag2 134).getD x1.toNatClampNeg 0).toInt = ((a 134).getD x1.toNatClampNeg 0).toInt := congrArg (fun z : List Int32 => (z.getD x1.toNatClampNeg 0).toInt) (kg2.fa 134 rfl)
  refine ko_callI mi_k210.1 (pc := 55) (ls := [(0, .ref 116), (1, .int x1), (2, .int 1), (3, .int x3)]) (st := [.int x3, .int 0, .int x1, .ref 116]) (h := ks ig2 ag2 qg2 rg2) (i := (.invokevirtual 354, 3, 210, 0, 9, 0, 463)) (mi_k210.2 _ _ (by rfl)) (ft_invS mi_pq210 (by rfl)) (cy := mi_c210) mi_pq210 rfl (kc210_116_l10_K4 hGg2.I hGg2.R x1 x3 (oz1339 hp0.1 hp0.2) (oz1447 hp1 u5) (oz1530 fig2_7457.1 hp2.2 z3)) (by decide) ?_
  intro vg6 ig6 ag6 qg6 rg6 kg6 hg6
  have hGg6 := kG_call hGg2 kg6 (by decide +kernel)
  have z7 : (ig6 7457).toInt = ((ig2 7457).toInt + 1) := hg6
  have b8 : ((-2147483648 : Int) ≤ vg6.toInt) ∧ (vg6.toInt ≤ 2147483647) := kd_bd vg6
  refine ft_go mi_k210 2 60 [(0, .ref 116), (1, .int x1), (2, .int 1), (3, .int x3)] [.int (vg6 + 3)] ig6 ag6 qg6 rg6 (by rfl) ?_
  exact ft_ret mi_k210 (by rfl) (hP (vg6 + 3) _ _ _ _ hGg6 (oz1531 z3 z7))
def w210_116_l14_K4 : kW := ([7457], [135], [], [])
set_option maxRecDepth 100000 in
theorem kc210_116_l14_K4 {i : Nat → Int32} {a : Nat → List Int32} {q : Nat → List Int64} {r : Nat → Nat} (hI : kI i a q) (hr : kr r) (x1 : Int32) (x3 : Int32) (hp0 : ((0 : Int) ≤ x1.toInt) ∧ (x1.toInt ≤ 49)) (hp1 : ((a 134).getD x1.toNatClampNeg 0).toInt = 4) (hp2 : ((0 : Int) ≤ (i 7457).toInt) ∧ (((i 7457).toInt + 2) ≤ 900)) : km 7 210 [.ref 116, .int x1, .int 4, .int x3] (ks i a q r) (kVI w210_116_l14_K4 i a q r (fun v i1 a1 q1 r1 => (i1 7457).toInt = ((i 7457).toInt + 2))) := by
  have hG := kG_self w210_116_l14_K4 hI hr
  refine km_ofI (q := (mi_h210, mi_c210)) rfl (by decide) (Nat.le_of_ble_eq_true rfl) ?_
  intro P hP
  have r1 : ((0 : Int) ≤ ((a 134).getD x1.toNatClampNeg 0).toInt) ∧ (((a 134).getD x1.toNatClampNeg 0).toInt ≤ 7) := hG.I.2.2.1 134 (x1.toNatClampNeg)
  have fi_7457 : ((0 : Int) ≤ (i 7457).toInt) ∧ ((i 7457).toInt ≤ 1000) := hG.I.1 7457
  refine ft_go mi_k210 5 80 [(0, .ref 116), (1, .int x1), (2, .int 4), (3, .int x3)] [.int 4, .int x1, .ref 116] i a q r (by rfl) ?_
  refine ko_callPI mi_k210.1 (pc := 80) (ls := [(0, .ref 116), (1, .int x1), (2, .int 4), (3, .int x3)]) (st := [.int 4, .int x1, .ref 116]) (h := ks i a q r) (i := (.invokestatic 357, 3, 208, 0, 9, 0, 465)) (mi_k210.2 _ _ (by rfl)) (ft_invS mi_pq208 (by rfl)) (cy := mi_c208) mi_pq208 rfl (kc208_l04 hG.I hG.R ) (by decide) ?_
  intro vg2 hg2
  have z3 : vg2.toInt = 1 := hg2
  have evvg2 := kj_eq (oz1381 z3) (by decide : (1 : Int32).toInt = 1)
  subst evvg2
  refine ft_go mi_k210 1 84 [(0, .ref 116), (1, .int x1), (2, .int 4), (3, .int x3)] [.int x3, .int 1, .int x1, .ref 116] i a q r (by rfl) ?_
  refine ko_callI mi_k210.1 (pc := 84) (ls := [(0, .ref 116), (1, .int x1), (2, .int 4), (3, .int x3)]) (st := [.int x3, .int 1, .int x1, .ref 116]) (h := ks i a q r) (i := (.invokevirtual 354, 3, 210, 0, 9, 0, 463)) (mi_k210.2 _ _ (by rfl)) (ft_invS mi_pq210 (by rfl)) (cy := mi_c210) mi_pq210 rfl (kc210_116_l11_K4 hG.I hG.R x1 x3 (oz1339 hp0.1 hp0.2) (oz1446 hp1) (oz1386 fi_7457.1 hp2.2)) (by decide) ?_
  intro vg4 ig4 ag4 qg4 rg4 kg4 hg4
  have hGg4 := kG_call hG kg4 (by decide +kernel)
  have z5 : (ig4 7457).toInt = ((i 7457).toInt + 2) := hg4
  exact ft_ret mi_k210 (by rfl) (hP vg4 _ _ _ _ hGg4 (oz1387 z5))
def w211_116_l10_K4 : kW := ([7457], [135], [], [])
set_option maxRecDepth 100000 in
theorem kc211_116_l10_K4 {i : Nat → Int32} {a : Nat → List Int32} {q : Nat → List Int64} {r : Nat → Nat} (hI : kI i a q) (hr : kr r) (x1 : Int32) (x3 : Int32) (hp0 : ((0 : Int) ≤ x1.toInt) ∧ (x1.toInt ≤ 49)) (hp1 : ((a 134).getD x1.toNatClampNeg 0).toInt = 4) (hp2 : ((0 : Int) ≤ (i 7457).toInt) ∧ (((i 7457).toInt + 3) ≤ 900)) : km 9 211 [.ref 116, .int x1, .int 0, .int x3] (ks i a q r) (kVI w211_116_l10_K4 i a q r (fun v i1 a1 q1 r1 => (i1 7457).toInt = ((i 7457).toInt + 3))) := by
  have hG := kG_self w211_116_l10_K4 hI hr
  refine km_ofI (q := (mi_h211, mi_c211)) rfl (by decide) (Nat.le_of_ble_eq_true rfl) ?_
  intro P hP
  have r1 : ((0 : Int) ≤ ((a 134).getD x1.toNatClampNeg 0).toInt) ∧ (((a 134).getD x1.toNatClampNeg 0).toInt ≤ 7) := hG.I.2.2.1 134 (x1.toNatClampNeg)
  have fi_7457 : ((0 : Int) ≤ (i 7457).toInt) ∧ ((i 7457).toInt ≤ 1000) := hG.I.1 7457
  refine ft_go mi_k211 4 51 [(0, .ref 116), (1, .int x1), (2, .int 0), (3, .int x3)] [.int 10, .ref 116] i a q r (by rfl) ?_
  refine ko_callN mi_k211.1 (pc := 51) (ls := [(0, .ref 116), (1, .int x1), (2, .int 0), (3, .int x3)]) (st := [.int 10, .ref 116]) (h := ks i a q r) (i := (.invokevirtual 351, 3, 209, 0, 9, 0, 464)) (mi_k211.2 _ _ (by rfl)) (ft_invS mi_pq209 (by rfl)) (cy := mi_c209) mi_pq209 rfl (kc209_116 hG.I hG.R 10 (oz1538 fi_7457.1 hp2.2)) (by decide) ?_
  intro ig2 ag2 qg2 rg2 kg2 hg2
  have hGg2 := kG_call hG kg2 (by decide +kernel)
  have fig2_7457 : ((0 : Int) ≤ (ig2 7457).toInt) ∧ ((ig2 7457).toInt ≤ 1000) := hGg2.I.1 7457
  have z3 : (ig2 7457).toInt = ((i 7457).toInt + 1) := hg2
  refine ft_go mi_k211 5 61 [(0, .ref 116), (1, .int x1), (2, .int 0), (3, .int x3)] [.int x1, .ref 134, .int x1, .ref 116] ig2 ag2 qg2 rg2 (by rfl) ?_
  refine ko_iald3 mi_k211.1 (n := 50) (c := 50) (ax := (0, 0, 0, 0, 0)) (mi_k211.2 _ _ (by rfl)) (by rfl) (ksG134 _ _ _ _) (hGg2.I.2.1 134) rfl (oz3 hp0.1) (oz1336 hp0.2) ?_
  have r4 : ((0 : Int) ≤ ((ag2 134).getD x1.toNatClampNeg 0).toInt) ∧ (((ag2 134).getD x1.toNatClampNeg 0).toInt ≤ 7) := hGg2.I.2.2.1 134 (x1.toNatClampNeg)
  have u5 : ((ag2 134).getD x1.toNatClampNeg 0).toInt = ((a 134).getD x1.toNatClampNeg 0).toInt := congrArg (fun z : List Int32 => (z.getD x1.toNatClampNeg 0).toInt) (kg2.fa 134 rfl)
  refine ko_eq (x1 := (62, [(0, .ref 116), (1, .int x1), (2, .int 0), (3, .int x3)], [.int 4, .int x1, .ref 116], (0, 0), ks ig2 ag2 qg2 rg2)) (by rw [(kj_eq (oz1447 hp1 u5) (by decide) : ((ag2 134).getD x1.toNatClampNeg 0) = 4)]) ?_
  refine ft_go mi_k211 1 63 [(0, .ref 116), (1, .int x1), (2, .int 0), (3, .int x3)] [.int x3, .int 4, .int x1, .ref 116] ig2 ag2 qg2 rg2 (by rfl) ?_
  refine ko_callI mi_k211.1 (pc := 63) (ls := [(0, .ref 116), (1, .int x1), (2, .int 0), (3, .int x3)]) (st := [.int x3, .int 4, .int x1, .ref 116]) (h := ks ig2 ag2 qg2 rg2) (i := (.invokevirtual 354, 3, 210, 0, 9, 0, 463)) (mi_k211.2 _ _ (by rfl)) (ft_invS mi_pq210 (by rfl)) (cy := mi_c210) mi_pq210 rfl (kc210_116_l14_K4 hGg2.I hGg2.R x1 x3 (oz1339 hp0.1 hp0.2) (oz1447 hp1 u5) (oz1539 fig2_7457.1 hp2.2 z3)) (by decide) ?_
  intro vg6 ig6 ag6 qg6 rg6 kg6 hg6
  have hGg6 := kG_call hGg2 kg6 (by decide +kernel)
  have z7 : (ig6 7457).toInt = ((ig2 7457).toInt + 2) := hg6
  have b8 : ((-2147483648 : Int) ≤ vg6.toInt) ∧ (vg6.toInt ≤ 2147483647) := kd_bd vg6
  refine ft_go mi_k211 2 68 [(0, .ref 116), (1, .int x1), (2, .int 0), (3, .int x3)] [.int (vg6 * 2)] ig6 ag6 qg6 rg6 (by rfl) ?_
  exact ft_ret mi_k211 (by rfl) (hP (vg6 * 2) _ _ _ _ hGg6 (oz1540 z3 z7))
def w211_116_l11_K4 : kW := ([7457], [135], [], [])
set_option maxRecDepth 100000 in
theorem kc211_116_l11_K4 {i : Nat → Int32} {a : Nat → List Int32} {q : Nat → List Int64} {r : Nat → Nat} (hI : kI i a q) (hr : kr r) (x1 : Int32) (x3 : Int32) (hp0 : ((0 : Int) ≤ x1.toInt) ∧ (x1.toInt ≤ 49)) (hp1 : ((a 134).getD x1.toNatClampNeg 0).toInt = 4) (hp2 : ((0 : Int) ≤ (i 7457).toInt) ∧ (((i 7457).toInt + 3) ≤ 900)) : km 11 211 [.ref 116, .int x1, .int 1, .int x3] (ks i a q r) (kVI w211_116_l11_K4 i a q r (fun v i1 a1 q1 r1 => (i1 7457).toInt = ((i 7457).toInt + 3))) := by
  have hG := kG_self w211_116_l11_K4 hI hr
  refine km_ofI (q := (mi_h211, mi_c211)) rfl (by decide) (Nat.le_of_ble_eq_true rfl) ?_
  intro P hP
  have r1 : ((0 : Int) ≤ ((a 134).getD x1.toNatClampNeg 0).toInt) ∧ (((a 134).getD x1.toNatClampNeg 0).toInt ≤ 7) := hG.I.2.2.1 134 (x1.toNatClampNeg)
  have fi_7457 : ((0 : Int) ≤ (i 7457).toInt) ∧ ((i 7457).toInt ≤ 1000) := hG.I.1 7457
  refine ft_go mi_k211 5 134 [(0, .ref 116), (1, .int x1), (2, .int 1), (3, .int x3)] [.int 1, .int x1, .ref 116] i a q r (by rfl) ?_
  refine ko_callPI mi_k211.1 (pc := 134) (ls := [(0, .ref 116), (1, .int x1), (2, .int 1), (3, .int x3)]) (st := [.int 1, .int x1, .ref 116]) (h := ks i a q r) (i := (.invokestatic 357, 3, 208, 0, 9, 0, 465)) (mi_k211.2 _ _ (by rfl)) (ft_invS mi_pq208 (by rfl)) (cy := mi_c208) mi_pq208 rfl (kc208_l01 hG.I hG.R ) (by decide) ?_
  intro vg2 hg2
  have z3 : vg2.toInt = 0 := hg2
  have evvg2 := kj_eq (oz236 z3) (by decide : (0 : Int32).toInt = 0)
  subst evvg2
  refine ft_go mi_k211 1 138 [(0, .ref 116), (1, .int x1), (2, .int 1), (3, .int x3)] [.int x3, .int 0, .int x1, .ref 116] i a q r (by rfl) ?_
  refine ko_callI mi_k211.1 (pc := 138) (ls := [(0, .ref 116), (1, .int x1), (2, .int 1), (3, .int x3)]) (st := [.int x3, .int 0, .int x1, .ref 116]) (h := ks i a q r) (i := (.invokevirtual 360, 3, 211, 0, 9, 0, 466)) (mi_k211.2 _ _ (by rfl)) (ft_invS mi_pq211 (by rfl)) (cy := mi_c211) mi_pq211 rfl (kc211_116_l10_K4 hG.I hG.R x1 x3 (oz1339 hp0.1 hp0.2) (oz1446 hp1) (oz1541 fi_7457.1 hp2.2)) (by decide) ?_
  intro vg4 ig4 ag4 qg4 rg4 kg4 hg4
  have hGg4 := kG_call hG kg4 (by decide +kernel)
  have z5 : (ig4 7457).toInt = ((i 7457).toInt + 3) := hg4
  exact ft_ret mi_k211 (by rfl) (hP vg4 _ _ _ _ hGg4 (oz1542 z5))
def w211_116_l14_K4 : kW := ([7457], [135], [], [])
set_option maxRecDepth 100000 in
theorem kc211_116_l14_K4 {i : Nat → Int32} {a : Nat → List Int32} {q : Nat → List Int64} {r : Nat → Nat} (hI : kI i a q) (hr : kr r) (x1 : Int32) (x3 : Int32) (hp0 : ((0 : Int) ≤ x1.toInt) ∧ (x1.toInt ≤ 49)) (hp1 : ((a 134).getD x1.toNatClampNeg 0).toInt = 4) (hp2 : ((0 : Int) ≤ (i 7457).toInt) ∧ (((i 7457).toInt + 3) ≤ 900)) : km 13 211 [.ref 116, .int x1, .int 4, .int x3] (ks i a q r) (kVI w211_116_l14_K4 i a q r (fun v i1 a1 q1 r1 => (i1 7457).toInt = ((i 7457).toInt + 3))) := by
  have hG := kG_self w211_116_l14_K4 hI hr
  refine km_ofI (q := (mi_h211, mi_c211)) rfl (by decide) (Nat.le_of_ble_eq_true rfl) ?_
  intro P hP
  have r1 : ((0 : Int) ≤ ((a 134).getD x1.toNatClampNeg 0).toInt) ∧ (((a 134).getD x1.toNatClampNeg 0).toInt ≤ 7) := hG.I.2.2.1 134 (x1.toNatClampNeg)
  have fi_7457 : ((0 : Int) ≤ (i 7457).toInt) ∧ ((i 7457).toInt ≤ 1000) := hG.I.1 7457
  refine ft_go mi_k211 5 134 [(0, .ref 116), (1, .int x1), (2, .int 4), (3, .int x3)] [.int 4, .int x1, .ref 116] i a q r (by rfl) ?_
  refine ko_callPI mi_k211.1 (pc := 134) (ls := [(0, .ref 116), (1, .int x1), (2, .int 4), (3, .int x3)]) (st := [.int 4, .int x1, .ref 116]) (h := ks i a q r) (i := (.invokestatic 357, 3, 208, 0, 9, 0, 465)) (mi_k211.2 _ _ (by rfl)) (ft_invS mi_pq208 (by rfl)) (cy := mi_c208) mi_pq208 rfl (kc208_l04 hG.I hG.R ) (by decide) ?_
  intro vg2 hg2
  have z3 : vg2.toInt = 1 := hg2
  have evvg2 := kj_eq (oz1381 z3) (by decide : (1 : Int32).toInt = 1)
  subst evvg2
  refine ft_go mi_k211 1 138 [(0, .ref 116), (1, .int x1), (2, .int 4), (3, .int x3)] [.int x3, .int 1, .int x1, .ref 116] i a q r (by rfl) ?_
  refine ko_callI mi_k211.1 (pc := 138) (ls := [(0, .ref 116), (1, .int x1), (2, .int 4), (3, .int x3)]) (st := [.int x3, .int 1, .int x1, .ref 116]) (h := ks i a q r) (i := (.invokevirtual 360, 3, 211, 0, 9, 0, 466)) (mi_k211.2 _ _ (by rfl)) (ft_invS mi_pq211 (by rfl)) (cy := mi_c211) mi_pq211 rfl (kc211_116_l11_K4 hG.I hG.R x1 x3 (oz1339 hp0.1 hp0.2) (oz1446 hp1) (oz1541 fi_7457.1 hp2.2)) (by decide) ?_
  intro vg4 ig4 ag4 qg4 rg4 kg4 hg4
  have hGg4 := kG_call hG kg4 (by decide +kernel)
  have z5 : (ig4 7457).toInt = ((i 7457).toInt + 3) := hg4
  exact ft_ret mi_k211 (by rfl) (hP vg4 _ _ _ _ hGg4 (oz1542 z5))
def w212_116_l10_K4 : kW := ([7457], [135], [], [])
set_option maxRecDepth 100000 in
theorem kc212_116_l10_K4 {i : Nat → Int32} {a : Nat → List Int32} {q : Nat → List Int64} {r : Nat → Nat} (hI : kI i a q) (hr : kr r) (x1 : Int32) (x3 : Int32) (hp0 : ((0 : Int) ≤ x1.toInt) ∧ (x1.toInt ≤ 49)) (hp1 : ((a 134).getD x1.toNatClampNeg 0).toInt = 4) (hp2 : ((0 : Int) ≤ (i 7457).toInt) ∧ (((i 7457).toInt + 1) ≤ 900)) : km 3 212 [.ref 116, .int x1, .int 0, .int x3] (ks i a q r) (kVI w212_116_l10_K4 i a q r (fun v i1 a1 q1 r1 => (i1 7457).toInt = ((i 7457).toInt + 1))) := by
  have hG := kG_self w212_116_l10_K4 hI hr
  refine km_ofI (q := (mi_h212, mi_c212)) rfl (by decide) (Nat.le_of_ble_eq_true rfl) ?_
  intro P hP
  have r1 : ((0 : Int) ≤ ((a 134).getD x1.toNatClampNeg 0).toInt) ∧ (((a 134).getD x1.toNatClampNeg 0).toInt ≤ 7) := hG.I.2.2.1 134 (x1.toNatClampNeg)
  have fi_7457 : ((0 : Int) ≤ (i 7457).toInt) ∧ ((i 7457).toInt ≤ 1000) := hG.I.1 7457
  refine ft_go mi_k212 4 39 [(0, .ref 116), (1, .int x1), (2, .int 0), (3, .int x3)] [.int 11, .ref 116] i a q r (by rfl) ?_
  refine ko_callN mi_k212.1 (pc := 39) (ls := [(0, .ref 116), (1, .int x1), (2, .int 0), (3, .int x3)]) (st := [.int 11, .ref 116]) (h := ks i a q r) (i := (.invokevirtual 351, 3, 209, 0, 9, 0, 464)) (mi_k212.2 _ _ (by rfl)) (ft_invS mi_pq209 (by rfl)) (cy := mi_c209) mi_pq209 rfl (kc209_116 hG.I hG.R 11 (oz1529 fi_7457.1 hp2.2)) (by decide) ?_
  intro ig2 ag2 qg2 rg2 kg2 hg2
  have hGg2 := kG_call hG kg2 (by decide +kernel)
  have z3 : (ig2 7457).toInt = ((i 7457).toInt + 1) := hg2
  refine ft_go mi_k212 3 45 [(0, .ref 116), (1, .int x1), (2, .int 0), (3, .int x3)] [.int (x3 ^^^ x1)] ig2 ag2 qg2 rg2 (by rfl) ?_
  exact ft_ret mi_k212 (by rfl) (hP (x3 ^^^ x1) _ _ _ _ hGg2 (oz1355 z3))
def w212_116_l11_K4 : kW := ([7457], [135], [], [])
set_option maxRecDepth 100000 in
theorem kc212_116_l11_K4 {i : Nat → Int32} {a : Nat → List Int32} {q : Nat → List Int64} {r : Nat → Nat} (hI : kI i a q) (hr : kr r) (x1 : Int32) (x3 : Int32) (hp0 : ((0 : Int) ≤ x1.toInt) ∧ (x1.toInt ≤ 49)) (hp1 : ((a 134).getD x1.toNatClampNeg 0).toInt = 4) (hp2 : ((0 : Int) ≤ (i 7457).toInt) ∧ (((i 7457).toInt + 1) ≤ 900)) : km 5 212 [.ref 116, .int x1, .int 1, .int x3] (ks i a q r) (kVI w212_116_l11_K4 i a q r (fun v i1 a1 q1 r1 => (i1 7457).toInt = ((i 7457).toInt + 1))) := by
  have hG := kG_self w212_116_l11_K4 hI hr
  refine km_ofI (q := (mi_h212, mi_c212)) rfl (by decide) (Nat.le_of_ble_eq_true rfl) ?_
  intro P hP
  have r1 : ((0 : Int) ≤ ((a 134).getD x1.toNatClampNeg 0).toInt) ∧ (((a 134).getD x1.toNatClampNeg 0).toInt ≤ 7) := hG.I.2.2.1 134 (x1.toNatClampNeg)
  have fi_7457 : ((0 : Int) ≤ (i 7457).toInt) ∧ ((i 7457).toInt ≤ 1000) := hG.I.1 7457
  refine ft_go mi_k212 5 96 [(0, .ref 116), (1, .int x1), (2, .int 1), (3, .int x3)] [.int 1, .int x1, .ref 116] i a q r (by rfl) ?_
  refine ko_callPI mi_k212.1 (pc := 96) (ls := [(0, .ref 116), (1, .int x1), (2, .int 1), (3, .int x3)]) (st := [.int 1, .int x1, .ref 116]) (h := ks i a q r) (i := (.invokestatic 357, 3, 208, 0, 9, 0, 465)) (mi_k212.2 _ _ (by rfl)) (ft_invS mi_pq208 (by rfl)) (cy := mi_c208) mi_pq208 rfl (kc208_l01 hG.I hG.R ) (by decide) ?_
  intro vg2 hg2
  have z3 : vg2.toInt = 0 := hg2
  have evvg2 := kj_eq (oz236 z3) (by decide : (0 : Int32).toInt = 0)
  subst evvg2
  refine ft_go mi_k212 1 100 [(0, .ref 116), (1, .int x1), (2, .int 1), (3, .int x3)] [.int x3, .int 0, .int x1, .ref 116] i a q r (by rfl) ?_
  refine ko_callI mi_k212.1 (pc := 100) (ls := [(0, .ref 116), (1, .int x1), (2, .int 1), (3, .int x3)]) (st := [.int x3, .int 0, .int x1, .ref 116]) (h := ks i a q r) (i := (.invokevirtual 363, 3, 212, 0, 9, 0, 467)) (mi_k212.2 _ _ (by rfl)) (ft_invS mi_pq212 (by rfl)) (cy := mi_c212) mi_pq212 rfl (kc212_116_l10_K4 hG.I hG.R x1 x3 (oz1339 hp0.1 hp0.2) (oz1446 hp1) (oz1354 fi_7457.1 hp2.2)) (by decide) ?_
  intro vg4 ig4 ag4 qg4 rg4 kg4 hg4
  have hGg4 := kG_call hG kg4 (by decide +kernel)
  have z5 : (ig4 7457).toInt = ((i 7457).toInt + 1) := hg4
  exact ft_ret mi_k212 (by rfl) (hP vg4 _ _ _ _ hGg4 (oz1355 z5))
def w212_116_l14_K4 : kW := ([7457], [135], [], [])
set_option maxRecDepth 100000 in
theorem kc212_116_l14_K4 {i : Nat → Int32} {a : Nat → List Int32} {q : Nat → List Int64} {r : Nat → Nat} (hI : kI i a q) (hr : kr r) (x1 : Int32) (x3 : Int32) (hp0 : ((0 : Int) ≤ x1.toInt) ∧ (x1.toInt ≤ 49)) (hp1 : ((a 134).getD x1.toNatClampNeg 0).toInt = 4) (hp2 : ((0 : Int) ≤ (i 7457).toInt) ∧ (((i 7457).toInt + 4) ≤ 900)) : km 9 212 [.ref 116, .int x1, .int 4, .int x3] (ks i a q r) (kVI w212_116_l14_K4 i a q r (fun v i1 a1 q1 r1 => (i1 7457).toInt = ((i 7457).toInt + 4))) := by
  have hG := kG_self w212_116_l14_K4 hI hr
  refine km_ofI (q := (mi_h212, mi_c212)) rfl (by decide) (Nat.le_of_ble_eq_true rfl) ?_
  intro P hP
  have r1 : ((0 : Int) ≤ ((a 134).getD x1.toNatClampNeg 0).toInt) ∧ (((a 134).getD x1.toNatClampNeg 0).toInt ≤ 7) := hG.I.2.2.1 134 (x1.toNatClampNeg)
  have fi_7457 : ((0 : Int) ≤ (i 7457).toInt) ∧ ((i 7457).toInt ≤ 1000) := hG.I.1 7457
  refine ft_go mi_k212 4 65 [(0, .ref 116), (1, .int x1), (2, .int 4), (3, .int x3)] [.int 50, .ref 116] i a q r (by rfl) ?_
  refine ko_callN mi_k212.1 (pc := 65) (ls := [(0, .ref 116), (1, .int x1), (2, .int 4), (3, .int x3)]) (st := [.int 50, .ref 116]) (h := ks i a q r) (i := (.invokevirtual 351, 3, 209, 0, 9, 0, 464)) (mi_k212.2 _ _ (by rfl)) (ft_invS mi_pq209 (by rfl)) (cy := mi_c209) mi_pq209 rfl (kc209_116 hG.I hG.R 50 (oz1527 fi_7457.1 hp2.2)) (by decide) ?_
  intro ig2 ag2 qg2 rg2 kg2 hg2
  have hGg2 := kG_call hG kg2 (by decide +kernel)
  have fig2_7457 : ((0 : Int) ≤ (ig2 7457).toInt) ∧ ((ig2 7457).toInt ≤ 1000) := hGg2.I.1 7457
  have z3 : (ig2 7457).toInt = ((i 7457).toInt + 1) := hg2
  refine ft_go mi_k212 4 72 [(0, .ref 116), (1, .int x1), (2, .int 4), (3, .int x3)] [.int x3, .int 1, .int x1, .ref 116] ig2 ag2 qg2 rg2 (by rfl) ?_
  have r4 : ((0 : Int) ≤ ((ag2 134).getD x1.toNatClampNeg 0).toInt) ∧ (((ag2 134).getD x1.toNatClampNeg 0).toInt ≤ 7) := hGg2.I.2.2.1 134 (x1.toNatClampNeg)
  have u5 : ((ag2 134).getD x1.toNatClampNeg 0).toInt = ((a 134).getD x1.toNatClampNeg 0).toInt := congrArg (fun z : List Int32 => (z.getD x1.toNatClampNeg 0).toInt) (kg2.fa 134 rfl)
  refine ko_callI mi_k212.1 (pc := 72) (ls := [(0, .ref 116), (1, .int x1), (2, .int 4), (3, .int x3)]) (st := [.int x3, .int 1, .int x1, .ref 116]) (h := ks ig2 ag2 qg2 rg2) (i := (.invokevirtual 363, 3, 212, 0, 9, 0, 467)) (mi_k212.2 _ _ (by rfl)) (ft_invS mi_pq212 (by rfl)) (cy := mi_c212) mi_pq212 rfl (kc212_116_l11_K4 hGg2.I hGg2.R x1 x3 (oz1339 hp0.1 hp0.2) (oz1447 hp1 u5) (oz1561 fig2_7457.1 hp2.2 z3)) (by decide) ?_
  intro vg6 ig6 ag6 qg6 rg6 kg6 hg6
  have hGg6 := kG_call hGg2 kg6 (by decide +kernel)
  have fig6_7457 : ((0 : Int) ≤ (ig6 7457).toInt) ∧ ((ig6 7457).toInt ≤ 1000) := hGg6.I.1 7457
  have z7 : (ig6 7457).toInt = ((ig2 7457).toInt + 1) := hg6
  refine ft_go mi_k212 7 86 [(4, .int vg6), (0, .ref 116), (1, .int x1), (2, .int 4), (3, .int x3)] [.int x1, .ref 134, .int x1, .ref 116, .int vg6] ig6 ag6 qg6 rg6 (by rfl) ?_
  refine ko_iald3 mi_k212.1 (n := 50) (c := 50) (ax := (0, 0, 0, 0, 0)) (mi_k212.2 _ _ (by rfl)) (by rfl) (ksG134 _ _ _ _) (hGg6.I.2.1 134) rfl (oz3 hp0.1) (oz1336 hp0.2) ?_
  have r8 : ((0 : Int) ≤ ((ag6 134).getD x1.toNatClampNeg 0).toInt) ∧ (((ag6 134).getD x1.toNatClampNeg 0).toInt ≤ 7) := hGg6.I.2.2.1 134 (x1.toNatClampNeg)
  have u9 : ((ag6 134).getD x1.toNatClampNeg 0).toInt = ((ag2 134).getD x1.toNatClampNeg 0).toInt := congrArg (fun z : List Int32 => (z.getD x1.toNatClampNeg 0).toInt) (kg6.fa 134 rfl)
  refine ko_eq (x1 := (87, [(4, .int vg6), (0, .ref 116), (1, .int x1), (2, .int 4), (3, .int x3)], [.int 4, .int x1, .ref 116, .int vg6], (0, 0), ks ig6 ag6 qg6 rg6)) (by rw [(kj_eq (oz1456 hp1 u5 u9) (by decide) : ((ag6 134).getD x1.toNatClampNeg 0) = 4)]) ?_
  refine ft_go mi_k212 1 88 [(4, .int vg6), (0, .ref 116), (1, .int x1), (2, .int 4), (3, .int x3)] [.int 2, .int 4, .int x1, .ref 116, .int vg6] ig6 ag6 qg6 rg6 (by rfl) ?_
  refine ko_callI mi_k212.1 (pc := 88) (ls := [(4, .int vg6), (0, .ref 116), (1, .int x1), (2, .int 4), (3, .int x3)]) (st := [.int 2, .int 4, .int x1, .ref 116, .int vg6]) (h := ks ig6 ag6 qg6 rg6) (i := (.invokevirtual 354, 3, 210, 0, 9, 0, 463)) (mi_k212.2 _ _ (by rfl)) (ft_invS mi_pq210 (by rfl)) (cy := mi_c210) mi_pq210 rfl (kc210_116_l14_K4 hGg6.I hGg6.R x1 2 (oz1339 hp0.1 hp0.2) (oz1456 hp1 u5 u9) (oz1562 fig6_7457.1 hp2.2 z3 z7)) (by decide) ?_
  intro vg10 ig10 ag10 qg10 rg10 kg10 hg10
  have hGg10 := kG_call hGg6 kg10 (by decide +kernel)
  have z11 : (ig10 7457).toInt = ((ig6 7457).toInt + 2) := hg10
  have b12 : ((-2147483648 : Int) ≤ vg6.toInt) ∧ (vg6.toInt ≤ 2147483647) := kd_bd vg6
  have b13 : ((-2147483648 : Int) ≤ vg10.toInt) ∧ (vg10.toInt ≤ 2147483647) := kd_bd vg10
  refine ft_go mi_k212 1 92 [(4, .int vg6), (0, .ref 116), (1, .int x1), (2, .int 4), (3, .int x3)] [.int (vg6 - vg10)] ig10 ag10 qg10 rg10 (by rfl) ?_
  exact ft_ret mi_k212 (by rfl) (hP (vg6 - vg10) _ _ _ _ hGg10 (oz1563 z11 z3 z7))
def w213_116_l10_K4 : kW := ([7457], [135], [], [])
set_option maxRecDepth 100000 in
theorem kc213_116_l10_K4 {i : Nat → Int32} {a : Nat → List Int32} {q : Nat → List Int64} {r : Nat → Nat} (hI : kI i a q) (hr : kr r) (x1 : Int32) (x3 : Int32) (hp0 : ((0 : Int) ≤ x1.toInt) ∧ (x1.toInt ≤ 49)) (hp1 : ((a 134).getD x1.toNatClampNeg 0).toInt = 4) (hp2 : ((0 : Int) ≤ (i 7457).toInt) ∧ (((i 7457).toInt + 8) ≤ 900)) : km 15 213 [.ref 116, .int x1, .int 0, .int x3] (ks i a q r) (kVI w213_116_l10_K4 i a q r (fun v i1 a1 q1 r1 => (i1 7457).toInt = ((i 7457).toInt + 8))) := by
  have hG := kG_self w213_116_l10_K4 hI hr
  refine km_ofI (q := (mi_h213, mi_c213)) rfl (by decide) (Nat.le_of_ble_eq_true rfl) ?_
  intro P hP
  have r1 : ((0 : Int) ≤ ((a 134).getD x1.toNatClampNeg 0).toInt) ∧ (((a 134).getD x1.toNatClampNeg 0).toInt ≤ 7) := hG.I.2.2.1 134 (x1.toNatClampNeg)
  have fi_7457 : ((0 : Int) ≤ (i 7457).toInt) ∧ ((i 7457).toInt ≤ 1000) := hG.I.1 7457
  refine ft_go mi_k213 4 38 [(0, .ref 116), (1, .int x1), (2, .int 0), (3, .int x3)] [.int 2, .ref 116] i a q r (by rfl) ?_
  refine ko_callN mi_k213.1 (pc := 38) (ls := [(0, .ref 116), (1, .int x1), (2, .int 0), (3, .int x3)]) (st := [.int 2, .ref 116]) (h := ks i a q r) (i := (.invokevirtual 351, 3, 209, 0, 9, 0, 464)) (mi_k213.2 _ _ (by rfl)) (ft_invS mi_pq209 (by rfl)) (cy := mi_c209) mi_pq209 rfl (kc209_116 hG.I hG.R 2 (oz1559 fi_7457.1 hp2.2)) (by decide) ?_
  intro ig2 ag2 qg2 rg2 kg2 hg2
  have hGg2 := kG_call hG kg2 (by decide +kernel)
  have fig2_7457 : ((0 : Int) ≤ (ig2 7457).toInt) ∧ ((ig2 7457).toInt ≤ 1000) := hGg2.I.1 7457
  have z3 : (ig2 7457).toInt = ((i 7457).toInt + 1) := hg2
  refine ft_go mi_k213 5 48 [(0, .ref 116), (1, .int x1), (2, .int 0), (3, .int x3)] [.int x1, .ref 134, .int x1, .ref 116] ig2 ag2 qg2 rg2 (by rfl) ?_
  refine ko_iald3 mi_k213.1 (n := 50) (c := 50) (ax := (0, 0, 0, 0, 0)) (mi_k213.2 _ _ (by rfl)) (by rfl) (ksG134 _ _ _ _) (hGg2.I.2.1 134) rfl (oz3 hp0.1) (oz1336 hp0.2) ?_
  have r4 : ((0 : Int) ≤ ((ag2 134).getD x1.toNatClampNeg 0).toInt) ∧ (((ag2 134).getD x1.toNatClampNeg 0).toInt ≤ 7) := hGg2.I.2.2.1 134 (x1.toNatClampNeg)
  have u5 : ((ag2 134).getD x1.toNatClampNeg 0).toInt = ((a 134).getD x1.toNatClampNeg 0).toInt := congrArg (fun z : List Int32 => (z.getD x1.toNatClampNeg 0).toInt) (kg2.fa 134 rfl)
  refine ko_eq (x1 := (49, [(0, .ref 116), (1, .int x1), (2, .int 0), (3, .int x3)], [.int 4, .int x1, .ref 116], (0, 0), ks ig2 ag2 qg2 rg2)) (by rw [(kj_eq (oz1447 hp1 u5) (by decide) : ((ag2 134).getD x1.toNatClampNeg 0) = 4)]) ?_
  refine ft_go mi_k213 1 50 [(0, .ref 116), (1, .int x1), (2, .int 0), (3, .int x3)] [.int x3, .int 4, .int x1, .ref 116] ig2 ag2 qg2 rg2 (by rfl) ?_
  refine ko_callI mi_k213.1 (pc := 50) (ls := [(0, .ref 116), (1, .int x1), (2, .int 0), (3, .int x3)]) (st := [.int x3, .int 4, .int x1, .ref 116]) (h := ks ig2 ag2 qg2 rg2) (i := (.invokevirtual 360, 3, 211, 0, 9, 0, 466)) (mi_k213.2 _ _ (by rfl)) (ft_invS mi_pq211 (by rfl)) (cy := mi_c211) mi_pq211 rfl (kc211_116_l14_K4 hGg2.I hGg2.R x1 x3 (oz1339 hp0.1 hp0.2) (oz1447 hp1 u5) (oz1560 fig2_7457.1 hp2.2 z3)) (by decide) ?_
  intro vg6 ig6 ag6 qg6 rg6 kg6 hg6
  have hGg6 := kG_call hGg2 kg6 (by decide +kernel)
  have fig6_7457 : ((0 : Int) ≤ (ig6 7457).toInt) ∧ ((ig6 7457).toInt ≤ 1000) := hGg6.I.1 7457
  have z7 : (ig6 7457).toInt = ((ig2 7457).toInt + 3) := hg6
  refine ft_go mi_k213 7 64 [(4, .int vg6), (0, .ref 116), (1, .int x1), (2, .int 0), (3, .int x3)] [.int x1, .ref 134, .int x1, .ref 116, .int vg6] ig6 ag6 qg6 rg6 (by rfl) ?_
  refine ko_iald3 mi_k213.1 (n := 50) (c := 50) (ax := (0, 0, 0, 0, 0)) (mi_k213.2 _ _ (by rfl)) (by rfl) (ksG134 _ _ _ _) (hGg6.I.2.1 134) rfl (oz3 hp0.1) (oz1336 hp0.2) ?_
  have r8 : ((0 : Int) ≤ ((ag6 134).getD x1.toNatClampNeg 0).toInt) ∧ (((ag6 134).getD x1.toNatClampNeg 0).toInt ≤ 7) := hGg6.I.2.2.1 134 (x1.toNatClampNeg)
  have u9 : ((ag6 134).getD x1.toNatClampNeg 0).toInt = ((ag2 134).getD x1.toNatClampNeg 0).toInt := congrArg (fun z : List Int32 => (z.getD x1.toNatClampNeg 0).toInt) (kg6.fa 134 rfl)
  refine ko_eq (x1 := (65, [(4, .int vg6), (0, .ref 116), (1, .int x1), (2, .int 0), (3, .int x3)], [.int 4, .int x1, .ref 116, .int vg6], (0, 0), ks ig6 ag6 qg6 rg6)) (by rw [(kj_eq (oz1456 hp1 u5 u9) (by decide) : ((ag6 134).getD x1.toNatClampNeg 0) = 4)]) ?_
  refine ft_go mi_k213 1 66 [(4, .int vg6), (0, .ref 116), (1, .int x1), (2, .int 0), (3, .int x3)] [.int 1, .int 4, .int x1, .ref 116, .int vg6] ig6 ag6 qg6 rg6 (by rfl) ?_
  refine ko_callI mi_k213.1 (pc := 66) (ls := [(4, .int vg6), (0, .ref 116), (1, .int x1), (2, .int 0), (3, .int x3)]) (st := [.int 1, .int 4, .int x1, .ref 116, .int vg6]) (h := ks ig6 ag6 qg6 rg6) (i := (.invokevirtual 363, 3, 212, 0, 9, 0, 467)) (mi_k213.2 _ _ (by rfl)) (ft_invS mi_pq212 (by rfl)) (cy := mi_c212) mi_pq212 rfl (kc212_116_l14_K4 hGg6.I hGg6.R x1 1 (oz1339 hp0.1 hp0.2) (oz1456 hp1 u5 u9) (oz1564 fig6_7457.1 hp2.2 z3 z7)) (by decide) ?_
  intro vg10 ig10 ag10 qg10 rg10 kg10 hg10
  have hGg10 := kG_call hGg6 kg10 (by decide +kernel)
  have z11 : (ig10 7457).toInt = ((ig6 7457).toInt + 4) := hg10
  have b12 : ((-2147483648 : Int) ≤ vg6.toInt) ∧ (vg6.toInt ≤ 2147483647) := kd_bd vg6
  have b13 : ((-2147483648 : Int) ≤ vg10.toInt) ∧ (vg10.toInt ≤ 2147483647) := kd_bd vg10
  refine ft_go mi_k213 1 70 [(4, .int vg6), (0, .ref 116), (1, .int x1), (2, .int 0), (3, .int x3)] [.int (vg6 - vg10)] ig10 ag10 qg10 rg10 (by rfl) ?_
  exact ft_ret mi_k213 (by rfl) (hP (vg6 - vg10) _ _ _ _ hGg10 (oz1565 z11 z3 z7))
def w213_116_l11_K4 : kW := ([7457], [135], [], [])
set_option maxRecDepth 100000 in
theorem kc213_116_l11_K4 {i : Nat → Int32} {a : Nat → List Int32} {q : Nat → List Int64} {r : Nat → Nat} (hI : kI i a q) (hr : kr r) (x1 : Int32) (x3 : Int32) (hp0 : ((0 : Int) ≤ x1.toInt) ∧ (x1.toInt ≤ 49)) (hp1 : ((a 134).getD x1.toNatClampNeg 0).toInt = 4) (hp2 : ((0 : Int) ≤ (i 7457).toInt) ∧ (((i 7457).toInt + 8) ≤ 900)) : km 17 213 [.ref 116, .int x1, .int 1, .int x3] (ks i a q r) (kVI w213_116_l11_K4 i a q r (fun v i1 a1 q1 r1 => (i1 7457).toInt = ((i 7457).toInt + 8))) := by
  have hG := kG_self w213_116_l11_K4 hI hr
  refine km_ofI (q := (mi_h213, mi_c213)) rfl (by decide) (Nat.le_of_ble_eq_true rfl) ?_
  intro P hP
  have r1 : ((0 : Int) ≤ ((a 134).getD x1.toNatClampNeg 0).toInt) ∧ (((a 134).getD x1.toNatClampNeg 0).toInt ≤ 7) := hG.I.2.2.1 134 (x1.toNatClampNeg)
  have fi_7457 : ((0 : Int) ≤ (i 7457).toInt) ∧ ((i 7457).toInt ≤ 1000) := hG.I.1 7457
  refine ft_go mi_k213 5 106 [(0, .ref 116), (1, .int x1), (2, .int 1), (3, .int x3)] [.int 1, .int x1, .ref 116] i a q r (by rfl) ?_
  refine ko_callPI mi_k213.1 (pc := 106) (ls := [(0, .ref 116), (1, .int x1), (2, .int 1), (3, .int x3)]) (st := [.int 1, .int x1, .ref 116]) (h := ks i a q r) (i := (.invokestatic 357, 3, 208, 0, 9, 0, 465)) (mi_k213.2 _ _ (by rfl)) (ft_invS mi_pq208 (by rfl)) (cy := mi_c208) mi_pq208 rfl (kc208_l01 hG.I hG.R ) (by decide) ?_
  intro vg2 hg2
  have z3 : vg2.toInt = 0 := hg2
  have evvg2 := kj_eq (oz236 z3) (by decide : (0 : Int32).toInt = 0)
  subst evvg2
  refine ft_go mi_k213 1 110 [(0, .ref 116), (1, .int x1), (2, .int 1), (3, .int x3)] [.int x3, .int 0, .int x1, .ref 116] i a q r (by rfl) ?_
  refine ko_callI mi_k213.1 (pc := 110) (ls := [(0, .ref 116), (1, .int x1), (2, .int 1), (3, .int x3)]) (st := [.int x3, .int 0, .int x1, .ref 116]) (h := ks i a q r) (i := (.invokevirtual 366, 3, 213, 0, 9, 0, 468)) (mi_k213.2 _ _ (by rfl)) (ft_invS mi_pq213 (by rfl)) (cy := mi_c213) mi_pq213 rfl (kc213_116_l10_K4 hG.I hG.R x1 x3 (oz1339 hp0.1 hp0.2) (oz1446 hp1) (oz1566 fi_7457.1 hp2.2)) (by decide) ?_
  intro vg4 ig4 ag4 qg4 rg4 kg4 hg4
  have hGg4 := kG_call hG kg4 (by decide +kernel)
  have z5 : (ig4 7457).toInt = ((i 7457).toInt + 8) := hg4
  exact ft_ret mi_k213 (by rfl) (hP vg4 _ _ _ _ hGg4 (oz1567 z5))
def w213_116_l14_K4 : kW := ([7457], [135], [], [])
set_option maxRecDepth 100000 in
theorem kc213_116_l14_K4 {i : Nat → Int32} {a : Nat → List Int32} {q : Nat → List Int64} {r : Nat → Nat} (hI : kI i a q) (hr : kr r) (x1 : Int32) (x3 : Int32) (hp0 : ((0 : Int) ≤ x1.toInt) ∧ (x1.toInt ≤ 49)) (hp1 : ((a 134).getD x1.toNatClampNeg 0).toInt = 4) (hp2 : ((0 : Int) ≤ (i 7457).toInt) ∧ (((i 7457).toInt + 8) ≤ 900)) : km 19 213 [.ref 116, .int x1, .int 4, .int x3] (ks i a q r) (kVI w213_116_l14_K4 i a q r (fun v i1 a1 q1 r1 => (i1 7457).toInt = ((i 7457).toInt + 8))) := by
  have hG := kG_self w213_116_l14_K4 hI hr
  refine km_ofI (q := (mi_h213, mi_c213)) rfl (by decide) (Nat.le_of_ble_eq_true rfl) ?_
  intro P hP
  have r1 : ((0 : Int) ≤ ((a 134).getD x1.toNatClampNeg 0).toInt) ∧ (((a 134).getD x1.toNatClampNeg 0).toInt ≤ 7) := hG.I.2.2.1 134 (x1.toNatClampNeg)
  have fi_7457 : ((0 : Int) ≤ (i 7457).toInt) ∧ ((i 7457).toInt ≤ 1000) := hG.I.1 7457
  refine ft_go mi_k213 5 106 [(0, .ref 116), (1, .int x1), (2, .int 4), (3, .int x3)] [.int 4, .int x1, .ref 116] i a q r (by rfl) ?_
  refine ko_callPI mi_k213.1 (pc := 106) (ls := [(0, .ref 116), (1, .int x1), (2, .int 4), (3, .int x3)]) (st := [.int 4, .int x1, .ref 116]) (h := ks i a q r) (i := (.invokestatic 357, 3, 208, 0, 9, 0, 465)) (mi_k213.2 _ _ (by rfl)) (ft_invS mi_pq208 (by rfl)) (cy := mi_c208) mi_pq208 rfl (kc208_l04 hG.I hG.R ) (by decide) ?_
  intro vg2 hg2
  have z3 : vg2.toInt = 1 := hg2
  have evvg2 := kj_eq (oz1381 z3) (by decide : (1 : Int32).toInt = 1)
  subst evvg2
  refine ft_go mi_k213 1 110 [(0, .ref 116), (1, .int x1), (2, .int 4), (3, .int x3)] [.int x3, .int 1, .int x1, .ref 116] i a q r (by rfl) ?_
  refine ko_callI mi_k213.1 (pc := 110) (ls := [(0, .ref 116), (1, .int x1), (2, .int 4), (3, .int x3)]) (st := [.int x3, .int 1, .int x1, .ref 116]) (h := ks i a q r) (i := (.invokevirtual 366, 3, 213, 0, 9, 0, 468)) (mi_k213.2 _ _ (by rfl)) (ft_invS mi_pq213 (by rfl)) (cy := mi_c213) mi_pq213 rfl (kc213_116_l11_K4 hG.I hG.R x1 x3 (oz1339 hp0.1 hp0.2) (oz1446 hp1) (oz1566 fi_7457.1 hp2.2)) (by decide) ?_
  intro vg4 ig4 ag4 qg4 rg4 kg4 hg4
  have hGg4 := kG_call hG kg4 (by decide +kernel)
  have z5 : (ig4 7457).toInt = ((i 7457).toInt + 8) := hg4
  exact ft_ret mi_k213 (by rfl) (hP vg4 _ _ _ _ hGg4 (oz1567 z5))
set_option maxRecDepth 100000 in
theorem kc208_l05 {i : Nat → Int32} {a : Nat → List Int32} {q : Nat → List Int64} {r : Nat → Nat} (hI : kI i a q) (hr : kr r)  : km 1 208 [.int 5] (ks i a q r) (kPI (ks i a q r) (fun v => v.toInt = 3)) := by
  have hG := kG_self kW0 hI hr
  refine km_ofPI (q := (mi_h208, mi_c208)) rfl (by decide) (Nat.le_of_ble_eq_true rfl) ?_
  intro P hP
  refine ft_go mi_k208 3 41 [(0, .int 5)] [.int 3] i a q r (by rfl) ?_
  exact ft_ret mi_k208 (by rfl) (hP 3 (oz1421 kn3))
def w210_116_l10_K5 : kW := ([7457], [135], [], [])
set_option maxRecDepth 100000 in
theorem kc210_116_l10_K5 {i : Nat → Int32} {a : Nat → List Int32} {q : Nat → List Int64} {r : Nat → Nat} (hI : kI i a q) (hr : kr r) (x1 : Int32) (x3 : Int32) (hp0 : ((0 : Int) ≤ x1.toInt) ∧ (x1.toInt ≤ 49)) (hp1 : ((a 134).getD x1.toNatClampNeg 0).toInt = 5) (hp2 : ((0 : Int) ≤ (i 7457).toInt) ∧ (((i 7457).toInt + 1) ≤ 900)) : km 3 210 [.ref 116, .int x1, .int 0, .int x3] (ks i a q r) (kVI w210_116_l10_K5 i a q r (fun v i1 a1 q1 r1 => (i1 7457).toInt = ((i 7457).toInt + 1))) := by
  have hG := kG_self w210_116_l10_K5 hI hr
  refine km_ofI (q := (mi_h210, mi_c210)) rfl (by decide) (Nat.le_of_ble_eq_true rfl) ?_
  intro P hP
  have r1 : ((0 : Int) ≤ ((a 134).getD x1.toNatClampNeg 0).toInt) ∧ (((a 134).getD x1.toNatClampNeg 0).toInt ≤ 7) := hG.I.2.2.1 134 (x1.toNatClampNeg)
  have fi_7457 : ((0 : Int) ≤ (i 7457).toInt) ∧ ((i 7457).toInt ≤ 1000) := hG.I.1 7457
  refine ft_go mi_k210 4 38 [(0, .ref 116), (1, .int x1), (2, .int 0), (3, .int x3)] [.int 1, .ref 116] i a q r (by rfl) ?_
  refine ko_callN mi_k210.1 (pc := 38) (ls := [(0, .ref 116), (1, .int x1), (2, .int 0), (3, .int x3)]) (st := [.int 1, .ref 116]) (h := ks i a q r) (i := (.invokevirtual 351, 3, 209, 0, 9, 0, 464)) (mi_k210.2 _ _ (by rfl)) (ft_invS mi_pq209 (by rfl)) (cy := mi_c209) mi_pq209 rfl (kc209_116 hG.I hG.R 1 (oz1529 fi_7457.1 hp2.2)) (by decide) ?_
  intro ig2 ag2 qg2 rg2 kg2 hg2
  have hGg2 := kG_call hG kg2 (by decide +kernel)
  have z3 : (ig2 7457).toInt = ((i 7457).toInt + 1) := hg2
  have b4 : ((-2147483648 : Int) ≤ x3.toInt) ∧ (x3.toInt ≤ 2147483647) := kd_bd x3
  have b5 : ((-2147483648 : Int) ≤ x1.toInt) ∧ (x1.toInt ≤ 2147483647) := kd_bd x1
  refine ft_go mi_k210 3 44 [(0, .ref 116), (1, .int x1), (2, .int 0), (3, .int x3)] [.int (x3 + x1)] ig2 ag2 qg2 rg2 (by rfl) ?_
  exact ft_ret mi_k210 (by rfl) (hP (x3 + x1) _ _ _ _ hGg2 (oz1355 z3))
def w210_116_l12_K5 : kW := ([7457], [135], [], [])
set_option maxRecDepth 100000 in
theorem kc210_116_l12_K5 {i : Nat → Int32} {a : Nat → List Int32} {q : Nat → List Int64} {r : Nat → Nat} (hI : kI i a q) (hr : kr r) (x1 : Int32) (x3 : Int32) (hp0 : ((0 : Int) ≤ x1.toInt) ∧ (x1.toInt ≤ 49)) (hp1 : ((a 134).getD x1.toNatClampNeg 0).toInt = 5) (hp2 : ((0 : Int) ≤ (i 7457).toInt) ∧ (((i 7457).toInt + 1) ≤ 900)) : km 5 210 [.ref 116, .int x1, .int 2, .int x3] (ks i a q r) (kVI w210_116_l12_K5 i a q r (fun v i1 a1 q1 r1 => (i1 7457).toInt = ((i 7457).toInt + 1))) := by
  have hG := kG_self w210_116_l12_K5 hI hr
  refine km_ofI (q := (mi_h210, mi_c210)) rfl (by decide) (Nat.le_of_ble_eq_true rfl) ?_
  intro P hP
  have r1 : ((0 : Int) ≤ ((a 134).getD x1.toNatClampNeg 0).toInt) ∧ (((a 134).getD x1.toNatClampNeg 0).toInt ≤ 7) := hG.I.2.2.1 134 (x1.toNatClampNeg)
  have fi_7457 : ((0 : Int) ≤ (i 7457).toInt) ∧ ((i 7457).toInt ≤ 1000) := hG.I.1 7457
  refine ft_go mi_k210 5 80 [(0, .ref 116), (1, .int x1), (2, .int 2), (3, .int x3)] [.int 2, .int x1, .ref 116] i a q r (by rfl) ?_
  refine ko_callPI mi_k210.1 (pc := 80) (ls := [(0, .ref 116), (1, .int x1), (2, .int 2), (3, .int x3)]) (st := [.int 2, .int x1, .ref 116]) (h := ks i a q r) (i := (.invokestatic 357, 3, 208, 0, 9, 0, 465)) (mi_k210.2 _ _ (by rfl)) (ft_invS mi_pq208 (by rfl)) (cy := mi_c208) mi_pq208 rfl (kc208_l02 hG.I hG.R ) (by decide) ?_
  intro vg2 hg2
  have z3 : vg2.toInt = 0 := hg2
  have evvg2 := kj_eq (oz236 z3) (by decide : (0 : Int32).toInt = 0)
  subst evvg2
  refine ft_go mi_k210 1 84 [(0, .ref 116), (1, .int x1), (2, .int 2), (3, .int x3)] [.int x3, .int 0, .int x1, .ref 116] i a q r (by rfl) ?_
  refine ko_callI mi_k210.1 (pc := 84) (ls := [(0, .ref 116), (1, .int x1), (2, .int 2), (3, .int x3)]) (st := [.int x3, .int 0, .int x1, .ref 116]) (h := ks i a q r) (i := (.invokevirtual 354, 3, 210, 0, 9, 0, 463)) (mi_k210.2 _ _ (by rfl)) (ft_invS mi_pq210 (by rfl)) (cy := mi_c210) mi_pq210 rfl (kc210_116_l10_K5 hG.I hG.R x1 x3 (oz1339 hp0.1 hp0.2) (oz1470 hp1) (oz1354 fi_7457.1 hp2.2)) (by decide) ?_
  intro vg4 ig4 ag4 qg4 rg4 kg4 hg4
  have hGg4 := kG_call hG kg4 (by decide +kernel)
  have z5 : (ig4 7457).toInt = ((i 7457).toInt + 1) := hg4
  exact ft_ret mi_k210 (by rfl) (hP vg4 _ _ _ _ hGg4 (oz1355 z5))
def w210_116_l13_K5 : kW := ([7457], [135], [], [])
set_option maxRecDepth 100000 in
theorem kc210_116_l13_K5 {i : Nat → Int32} {a : Nat → List Int32} {q : Nat → List Int64} {r : Nat → Nat} (hI : kI i a q) (hr : kr r) (x1 : Int32) (x3 : Int32) (hp0 : ((0 : Int) ≤ x1.toInt) ∧ (x1.toInt ≤ 49)) (hp1 : ((a 134).getD x1.toNatClampNeg 0).toInt = 5) (hp2 : ((0 : Int) ≤ (i 7457).toInt) ∧ (((i 7457).toInt + 1) ≤ 900)) : km 7 210 [.ref 116, .int x1, .int 3, .int x3] (ks i a q r) (kVI w210_116_l13_K5 i a q r (fun v i1 a1 q1 r1 => (i1 7457).toInt = ((i 7457).toInt + 1))) := by
  have hG := kG_self w210_116_l13_K5 hI hr
  refine km_ofI (q := (mi_h210, mi_c210)) rfl (by decide) (Nat.le_of_ble_eq_true rfl) ?_
  intro P hP
  have r1 : ((0 : Int) ≤ ((a 134).getD x1.toNatClampNeg 0).toInt) ∧ (((a 134).getD x1.toNatClampNeg 0).toInt ≤ 7) := hG.I.2.2.1 134 (x1.toNatClampNeg)
  have fi_7457 : ((0 : Int) ≤ (i 7457).toInt) ∧ ((i 7457).toInt ≤ 1000) := hG.I.1 7457
  refine ft_go mi_k210 5 80 [(0, .ref 116), (1, .int x1), (2, .int 3), (3, .int x3)] [.int 3, .int x1, .ref 116] i a q r (by rfl) ?_
  refine ko_callPI mi_k210.1 (pc := 80) (ls := [(0, .ref 116), (1, .int x1), (2, .int 3), (3, .int x3)]) (st := [.int 3, .int x1, .ref 116]) (h := ks i a q r) (i := (.invokestatic 357, 3, 208, 0, 9, 0, 465)) (mi_k210.2 _ _ (by rfl)) (ft_invS mi_pq208 (by rfl)) (cy := mi_c208) mi_pq208 rfl (kc208_l03 hG.I hG.R ) (by decide) ?_
  intro vg2 hg2
  have z3 : vg2.toInt = 2 := hg2
  have evvg2 := kj_eq (oz1411 z3) (by decide : (2 : Int32).toInt = 2)
  subst evvg2
  refine ft_go mi_k210 1 84 [(0, .ref 116), (1, .int x1), (2, .int 3), (3, .int x3)] [.int x3, .int 2, .int x1, .ref 116] i a q r (by rfl) ?_
  refine ko_callI mi_k210.1 (pc := 84) (ls := [(0, .ref 116), (1, .int x1), (2, .int 3), (3, .int x3)]) (st := [.int x3, .int 2, .int x1, .ref 116]) (h := ks i a q r) (i := (.invokevirtual 354, 3, 210, 0, 9, 0, 463)) (mi_k210.2 _ _ (by rfl)) (ft_invS mi_pq210 (by rfl)) (cy := mi_c210) mi_pq210 rfl (kc210_116_l12_K5 hG.I hG.R x1 x3 (oz1339 hp0.1 hp0.2) (oz1470 hp1) (oz1354 fi_7457.1 hp2.2)) (by decide) ?_
  intro vg4 ig4 ag4 qg4 rg4 kg4 hg4
  have hGg4 := kG_call hG kg4 (by decide +kernel)
  have z5 : (ig4 7457).toInt = ((i 7457).toInt + 1) := hg4
  exact ft_ret mi_k210 (by rfl) (hP vg4 _ _ _ _ hGg4 (oz1355 z5))
def w210_116_l15_K5 : kW := ([7457], [135], [], [])
set_option maxRecDepth 100000 in
theorem kc210_116_l15_K5 {i : Nat → Int32} {a : Nat → List Int32} {q : Nat → List Int64} {r : Nat → Nat} (hI : kI i a q) (hr : kr r) (x1 : Int32) (x3 : Int32) (hp0 : ((0 : Int) ≤ x1.toInt) ∧ (x1.toInt ≤ 49)) (hp1 : ((a 134).getD x1.toNatClampNeg 0).toInt = 5) (hp2 : ((0 : Int) ≤ (i 7457).toInt) ∧ (((i 7457).toInt + 1) ≤ 900)) : km 9 210 [.ref 116, .int x1, .int 5, .int x3] (ks i a q r) (kVI w210_116_l15_K5 i a q r (fun v i1 a1 q1 r1 => (i1 7457).toInt = ((i 7457).toInt + 1))) := by
  have hG := kG_self w210_116_l15_K5 hI hr
  refine km_ofI (q := (mi_h210, mi_c210)) rfl (by decide) (Nat.le_of_ble_eq_true rfl) ?_
  intro P hP
  have r1 : ((0 : Int) ≤ ((a 134).getD x1.toNatClampNeg 0).toInt) ∧ (((a 134).getD x1.toNatClampNeg 0).toInt ≤ 7) := hG.I.2.2.1 134 (x1.toNatClampNeg)
  have fi_7457 : ((0 : Int) ≤ (i 7457).toInt) ∧ ((i 7457).toInt ≤ 1000) := hG.I.1 7457
  refine ft_go mi_k210 5 80 [(0, .ref 116), (1, .int x1), (2, .int 5), (3, .int x3)] [.int 5, .int x1, .ref 116] i a q r (by rfl) ?_
  refine ko_callPI mi_k210.1 (pc := 80) (ls := [(0, .ref 116), (1, .int x1), (2, .int 5), (3, .int x3)]) (st := [.int 5, .int x1, .ref 116]) (h := ks i a q r) (i := (.invokestatic 357, 3, 208, 0, 9, 0, 465)) (mi_k210.2 _ _ (by rfl)) (ft_invS mi_pq208 (by rfl)) (cy := mi_c208) mi_pq208 rfl (kc208_l05 hG.I hG.R ) (by decide) ?_
  intro vg2 hg2
  have z3 : vg2.toInt = 3 := hg2
  have evvg2 := kj_eq (oz1421 z3) (by decide : (3 : Int32).toInt = 3)
  subst evvg2
  refine ft_go mi_k210 1 84 [(0, .ref 116), (1, .int x1), (2, .int 5), (3, .int x3)] [.int x3, .int 3, .int x1, .ref 116] i a q r (by rfl) ?_
  refine ko_callI mi_k210.1 (pc := 84) (ls := [(0, .ref 116), (1, .int x1), (2, .int 5), (3, .int x3)]) (st := [.int x3, .int 3, .int x1, .ref 116]) (h := ks i a q r) (i := (.invokevirtual 354, 3, 210, 0, 9, 0, 463)) (mi_k210.2 _ _ (by rfl)) (ft_invS mi_pq210 (by rfl)) (cy := mi_c210) mi_pq210 rfl (kc210_116_l13_K5 hG.I hG.R x1 x3 (oz1339 hp0.1 hp0.2) (oz1470 hp1) (oz1354 fi_7457.1 hp2.2)) (by decide) ?_
  intro vg4 ig4 ag4 qg4 rg4 kg4 hg4
  have hGg4 := kG_call hG kg4 (by decide +kernel)
  have z5 : (ig4 7457).toInt = ((i 7457).toInt + 1) := hg4
  exact ft_ret mi_k210 (by rfl) (hP vg4 _ _ _ _ hGg4 (oz1355 z5))
def w211_116_l10_K5 : kW := ([7457], [135], [], [])
set_option maxRecDepth 100000 in
theorem kc211_116_l10_K5 {i : Nat → Int32} {a : Nat → List Int32} {q : Nat → List Int64} {r : Nat → Nat} (hI : kI i a q) (hr : kr r) (x1 : Int32) (x3 : Int32) (hp0 : ((0 : Int) ≤ x1.toInt) ∧ (x1.toInt ≤ 49)) (hp1 : ((a 134).getD x1.toNatClampNeg 0).toInt = 5) (hp2 : ((0 : Int) ≤ (i 7457).toInt) ∧ (((i 7457).toInt + 2) ≤ 900)) : km 11 211 [.ref 116, .int x1, .int 0, .int x3] (ks i a q r) (kVI w211_116_l10_K5 i a q r (fun v i1 a1 q1 r1 => (i1 7457).toInt = ((i 7457).toInt + 2))) := by
  have hG := kG_self w211_116_l10_K5 hI hr
  refine km_ofI (q := (mi_h211, mi_c211)) rfl (by decide) (Nat.le_of_ble_eq_true rfl) ?_
  intro P hP
  have r1 : ((0 : Int) ≤ ((a 134).getD x1.toNatClampNeg 0).toInt) ∧ (((a 134).getD x1.toNatClampNeg 0).toInt ≤ 7) := hG.I.2.2.1 134 (x1.toNatClampNeg)
  have fi_7457 : ((0 : Int) ≤ (i 7457).toInt) ∧ ((i 7457).toInt ≤ 1000) := hG.I.1 7457
  refine ft_go mi_k211 4 51 [(0, .ref 116), (1, .int x1), (2, .int 0), (3, .int x3)] [.int 10, .ref 116] i a q r (by rfl) ?_
  refine ko_callN mi_k211.1 (pc := 51) (ls := [(0, .ref 116), (1, .int x1), (2, .int 0), (3, .int x3)]) (st := [.int 10, .ref 116]) (h := ks i a q r) (i := (.invokevirtual 351, 3, 209, 0, 9, 0, 464)) (mi_k211.2 _ _ (by rfl)) (ft_invS mi_pq209 (by rfl)) (cy := mi_c209) mi_pq209 rfl (kc209_116 hG.I hG.R 10 (oz1528 fi_7457.1 hp2.2)) (by decide) ?_
  intro ig2 ag2 qg2 rg2 kg2 hg2
  have hGg2 := kG_call hG kg2 (by decide +kernel)
  have fig2_7457 : ((0 : Int) ≤ (ig2 7457).toInt) ∧ ((ig2 7457).toInt ≤ 1000) := hGg2.I.1 7457
  have z3 : (ig2 7457).toInt = ((i 7457).toInt + 1) := hg2
  refine ft_go mi_k211 5 61 [(0, .ref 116), (1, .int x1), (2, .int 0), (3, .int x3)] [.int x1, .ref 134, .int x1, .ref 116] ig2 ag2 qg2 rg2 (by rfl) ?_
  refine ko_iald3 mi_k211.1 (n := 50) (c := 50) (ax := (0, 0, 0, 0, 0)) (mi_k211.2 _ _ (by rfl)) (by rfl) (ksG134 _ _ _ _) (hGg2.I.2.1 134) rfl (oz3 hp0.1) (oz1336 hp0.2) ?_
  have r4 : ((0 : Int) ≤ ((ag2 134).getD x1.toNatClampNeg 0).toInt) ∧ (((ag2 134).getD x1.toNatClampNeg 0).toInt ≤ 7) := hGg2.I.2.2.1 134 (x1.toNatClampNeg)
  have u5 : ((ag2 134).getD x1.toNatClampNeg 0).toInt = ((a 134).getD x1.toNatClampNeg 0).toInt := congrArg (fun z : List Int32 => (z.getD x1.toNatClampNeg 0).toInt) (kg2.fa 134 rfl)
  refine ko_eq (x1 := (62, [(0, .ref 116), (1, .int x1), (2, .int 0), (3, .int x3)], [.int 5, .int x1, .ref 116], (0, 0), ks ig2 ag2 qg2 rg2)) (by rw [(kj_eq (oz1471 hp1 u5) (by decide) : ((ag2 134).getD x1.toNatClampNeg 0) = 5)]) ?_
  refine ft_go mi_k211 1 63 [(0, .ref 116), (1, .int x1), (2, .int 0), (3, .int x3)] [.int x3, .int 5, .int x1, .ref 116] ig2 ag2 qg2 rg2 (by rfl) ?_
  refine ko_callI mi_k211.1 (pc := 63) (ls := [(0, .ref 116), (1, .int x1), (2, .int 0), (3, .int x3)]) (st := [.int x3, .int 5, .int x1, .ref 116]) (h := ks ig2 ag2 qg2 rg2) (i := (.invokevirtual 354, 3, 210, 0, 9, 0, 463)) (mi_k211.2 _ _ (by rfl)) (ft_invS mi_pq210 (by rfl)) (cy := mi_c210) mi_pq210 rfl (kc210_116_l15_K5 hGg2.I hGg2.R x1 x3 (oz1339 hp0.1 hp0.2) (oz1471 hp1 u5) (oz1530 fig2_7457.1 hp2.2 z3)) (by decide) ?_
  intro vg6 ig6 ag6 qg6 rg6 kg6 hg6
  have hGg6 := kG_call hGg2 kg6 (by decide +kernel)
  have z7 : (ig6 7457).toInt = ((ig2 7457).toInt + 1) := hg6
  have b8 : ((-2147483648 : Int) ≤ vg6.toInt) ∧ (vg6.toInt ≤ 2147483647) := kd_bd vg6
  refine ft_go mi_k211 2 68 [(0, .ref 116), (1, .int x1), (2, .int 0), (3, .int x3)] [.int (vg6 * 2)] ig6 ag6 qg6 rg6 (by rfl) ?_
  exact ft_ret mi_k211 (by rfl) (hP (vg6 * 2) _ _ _ _ hGg6 (oz1531 z3 z7))
def w211_116_l12_K5 : kW := ([7457], [135], [], [])
set_option maxRecDepth 100000 in
theorem kc211_116_l12_K5 {i : Nat → Int32} {a : Nat → List Int32} {q : Nat → List Int64} {r : Nat → Nat} (hI : kI i a q) (hr : kr r) (x1 : Int32) (x3 : Int32) (hp0 : ((0 : Int) ≤ x1.toInt) ∧ (x1.toInt ≤ 49)) (hp1 : ((a 134).getD x1.toNatClampNeg 0).toInt = 5) (hp2 : ((0 : Int) ≤ (i 7457).toInt) ∧ (((i 7457).toInt + 3) ≤ 900)) : km 13 211 [.ref 116, .int x1, .int 2, .int x3] (ks i a q r) (kVI w211_116_l12_K5 i a q r (fun v i1 a1 q1 r1 => (i1 7457).toInt = ((i 7457).toInt + 3))) := by
  have hG := kG_self w211_116_l12_K5 hI hr
  refine km_ofI (q := (mi_h211, mi_c211)) rfl (by decide) (Nat.le_of_ble_eq_true rfl) ?_
  intro P hP
  have r1 : ((0 : Int) ≤ ((a 134).getD x1.toNatClampNeg 0).toInt) ∧ (((a 134).getD x1.toNatClampNeg 0).toInt ≤ 7) := hG.I.2.2.1 134 (x1.toNatClampNeg)
  have fi_7457 : ((0 : Int) ≤ (i 7457).toInt) ∧ ((i 7457).toInt ≤ 1000) := hG.I.1 7457
  refine ft_go mi_k211 4 72 [(0, .ref 116), (1, .int x1), (2, .int 2), (3, .int x3)] [.int 30, .ref 116] i a q r (by rfl) ?_
  refine ko_callN mi_k211.1 (pc := 72) (ls := [(0, .ref 116), (1, .int x1), (2, .int 2), (3, .int x3)]) (st := [.int 30, .ref 116]) (h := ks i a q r) (i := (.invokevirtual 351, 3, 209, 0, 9, 0, 464)) (mi_k211.2 _ _ (by rfl)) (ft_invS mi_pq209 (by rfl)) (cy := mi_c209) mi_pq209 rfl (kc209_116 hG.I hG.R 30 (oz1538 fi_7457.1 hp2.2)) (by decide) ?_
  intro ig2 ag2 qg2 rg2 kg2 hg2
  have hGg2 := kG_call hG kg2 (by decide +kernel)
  have fig2_7457 : ((0 : Int) ≤ (ig2 7457).toInt) ∧ ((ig2 7457).toInt ≤ 1000) := hGg2.I.1 7457
  have z3 : (ig2 7457).toInt = ((i 7457).toInt + 1) := hg2
  refine ft_go mi_k211 4 79 [(0, .ref 116), (1, .int x1), (2, .int 2), (3, .int x3)] [.int x3, .int 0, .int x1, .ref 116] ig2 ag2 qg2 rg2 (by rfl) ?_
  have r4 : ((0 : Int) ≤ ((ag2 134).getD x1.toNatClampNeg 0).toInt) ∧ (((ag2 134).getD x1.toNatClampNeg 0).toInt ≤ 7) := hGg2.I.2.2.1 134 (x1.toNatClampNeg)
  have u5 : ((ag2 134).getD x1.toNatClampNeg 0).toInt = ((a 134).getD x1.toNatClampNeg 0).toInt := congrArg (fun z : List Int32 => (z.getD x1.toNatClampNeg 0).toInt) (kg2.fa 134 rfl)
  refine ko_callI mi_k211.1 (pc := 79) (ls := [(0, .ref 116), (1, .int x1), (2, .int 2), (3, .int x3)]) (st := [.int x3, .int 0, .int x1, .ref 116]) (h := ks ig2 ag2 qg2 rg2) (i := (.invokevirtual 360, 3, 211, 0, 9, 0, 466)) (mi_k211.2 _ _ (by rfl)) (ft_invS mi_pq211 (by rfl)) (cy := mi_c211) mi_pq211 rfl (kc211_116_l10_K5 hGg2.I hGg2.R x1 x3 (oz1339 hp0.1 hp0.2) (oz1471 hp1 u5) (oz1539 fig2_7457.1 hp2.2 z3)) (by decide) ?_
  intro vg6 ig6 ag6 qg6 rg6 kg6 hg6
  have hGg6 := kG_call hGg2 kg6 (by decide +kernel)
  have z7 : (ig6 7457).toInt = ((ig2 7457).toInt + 2) := hg6
  refine ft_go mi_k211 1 83 [(0, .ref 116), (1, .int x1), (2, .int 2), (3, .int x3)] [.int (-vg6)] ig6 ag6 qg6 rg6 (by rfl) ?_
  exact ft_ret mi_k211 (by rfl) (hP (-vg6) _ _ _ _ hGg6 (oz1540 z3 z7))
def w211_116_l13_K5 : kW := ([7457], [135], [], [])
set_option maxRecDepth 100000 in
theorem kc211_116_l13_K5 {i : Nat → Int32} {a : Nat → List Int32} {q : Nat → List Int64} {r : Nat → Nat} (hI : kI i a q) (hr : kr r) (x1 : Int32) (x3 : Int32) (hp0 : ((0 : Int) ≤ x1.toInt) ∧ (x1.toInt ≤ 49)) (hp1 : ((a 134).getD x1.toNatClampNeg 0).toInt = 5) (hp2 : ((0 : Int) ≤ (i 7457).toInt) ∧ (((i 7457).toInt + 4) ≤ 900)) : km 15 211 [.ref 116, .int x1, .int 3, .int x3] (ks i a q r) (kVI w211_116_l13_K5 i a q r (fun v i1 a1 q1 r1 => (i1 7457).toInt = ((i 7457).toInt + 4))) := by
  have hG := kG_self w211_116_l13_K5 hI hr
  refine km_ofI (q := (mi_h211, mi_c211)) rfl (by decide) (Nat.le_of_ble_eq_true rfl) ?_
  intro P hP
  have r1 : ((0 : Int) ≤ ((a 134).getD x1.toNatClampNeg 0).toInt) ∧ (((a 134).getD x1.toNatClampNeg 0).toInt ≤ 7) := hG.I.2.2.1 134 (x1.toNatClampNeg)
  have fi_7457 : ((0 : Int) ≤ (i 7457).toInt) ∧ ((i 7457).toInt ≤ 1000) := hG.I.1 7457
  refine ft_go mi_k211 4 87 [(0, .ref 116), (1, .int x1), (2, .int 3), (3, .int x3)] [.int 41, .ref 116] i a q r (by rfl) ?_
  refine ko_callN mi_k211.1 (pc := 87) (ls := [(0, .ref 116), (1, .int x1), (2, .int 3), (3, .int x3)]) (st := [.int 41, .ref 116]) (h := ks i a q r) (i := (.invokevirtual 351, 3, 209, 0, 9, 0, 464)) (mi_k211.2 _ _ (by rfl)) (ft_invS mi_pq209 (by rfl)) (cy := mi_c209) mi_pq209 rfl (kc209_116 hG.I hG.R 41 (oz1527 fi_7457.1 hp2.2)) (by decide) ?_
  intro ig2 ag2 qg2 rg2 kg2 hg2
  have hGg2 := kG_call hG kg2 (by decide +kernel)
  have fig2_7457 : ((0 : Int) ≤ (ig2 7457).toInt) ∧ ((ig2 7457).toInt ≤ 1000) := hGg2.I.1 7457
  have z3 : (ig2 7457).toInt = ((i 7457).toInt + 1) := hg2
  have b4 : ((-2147483648 : Int) ≤ x3.toInt) ∧ (x3.toInt ≤ 2147483647) := kd_bd x3
  refine ft_go mi_k211 6 96 [(0, .ref 116), (1, .int x1), (2, .int 3), (3, .int x3)] [.int (x3 + 1), .int 2, .int x1, .ref 116] ig2 ag2 qg2 rg2 (by rfl) ?_
  have r5 : ((0 : Int) ≤ ((ag2 134).getD x1.toNatClampNeg 0).toInt) ∧ (((ag2 134).getD x1.toNatClampNeg 0).toInt ≤ 7) := hGg2.I.2.2.1 134 (x1.toNatClampNeg)
  have u6 : ((ag2 134).getD x1.toNatClampNeg 0).toInt = ((a 134).getD x1.toNatClampNeg 0).toInt := congrArg (fun z : List Int32 => (z.getD x1.toNatClampNeg 0).toInt) (kg2.fa 134 rfl)
  refine ko_callI mi_k211.1 (pc := 96) (ls := [(0, .ref 116), (1, .int x1), (2, .int 3), (3, .int x3)]) (st := [.int (x3 + 1), .int 2, .int x1, .ref 116]) (h := ks ig2 ag2 qg2 rg2) (i := (.invokevirtual 360, 3, 211, 0, 9, 0, 466)) (mi_k211.2 _ _ (by rfl)) (ft_invS mi_pq211 (by rfl)) (cy := mi_c211) mi_pq211 rfl (kc211_116_l12_K5 hGg2.I hGg2.R x1 (x3 + 1) (oz1339 hp0.1 hp0.2) (oz1471 hp1 u6) (oz1551 fig2_7457.1 hp2.2 z3)) (by decide) ?_
  intro vg7 ig7 ag7 qg7 rg7 kg7 hg7
  have hGg7 := kG_call hGg2 kg7 (by decide +kernel)
  have z8 : (ig7 7457).toInt = ((ig2 7457).toInt + 3) := hg7
  exact ft_ret mi_k211 (by rfl) (hP vg7 _ _ _ _ hGg7 (oz1552 z3 z8))
def w211_116_l15_K5 : kW := ([7457], [135], [], [])
set_option maxRecDepth 100000 in
theorem kc211_116_l15_K5 {i : Nat → Int32} {a : Nat → List Int32} {q : Nat → List Int64} {r : Nat → Nat} (hI : kI i a q) (hr : kr r) (x1 : Int32) (x3 : Int32) (hp0 : ((0 : Int) ≤ x1.toInt) ∧ (x1.toInt ≤ 49)) (hp1 : ((a 134).getD x1.toNatClampNeg 0).toInt = 5) (hp2 : ((0 : Int) ≤ (i 7457).toInt) ∧ (((i 7457).toInt + 4) ≤ 900)) : km 17 211 [.ref 116, .int x1, .int 5, .int x3] (ks i a q r) (kVI w211_116_l15_K5 i a q r (fun v i1 a1 q1 r1 => (i1 7457).toInt = ((i 7457).toInt + 4))) := by
  have hG := kG_self w211_116_l15_K5 hI hr
  refine km_ofI (q := (mi_h211, mi_c211)) rfl (by decide) (Nat.le_of_ble_eq_true rfl) ?_
  intro P hP
  have r1 : ((0 : Int) ≤ ((a 134).getD x1.toNatClampNeg 0).toInt) ∧ (((a 134).getD x1.toNatClampNeg 0).toInt ≤ 7) := hG.I.2.2.1 134 (x1.toNatClampNeg)
  have fi_7457 : ((0 : Int) ≤ (i 7457).toInt) ∧ ((i 7457).toInt ≤ 1000) := hG.I.1 7457
  refine ft_go mi_k211 5 134 [(0, .ref 116), (1, .int x1), (2, .int 5), (3, .int x3)] [.int 5, .int x1, .ref 116] i a q r (by rfl) ?_
  refine ko_callPI mi_k211.1 (pc := 134) (ls := [(0, .ref 116), (1, .int x1), (2, .int 5), (3, .int x3)]) (st := [.int 5, .int x1, .ref 116]) (h := ks i a q r) (i := (.invokestatic 357, 3, 208, 0, 9, 0, 465)) (mi_k211.2 _ _ (by rfl)) (ft_invS mi_pq208 (by rfl)) (cy := mi_c208) mi_pq208 rfl (kc208_l05 hG.I hG.R ) (by decide) ?_
  intro vg2 hg2
  have z3 : vg2.toInt = 3 := hg2
  have evvg2 := kj_eq (oz1421 z3) (by decide : (3 : Int32).toInt = 3)
  subst evvg2
  refine ft_go mi_k211 1 138 [(0, .ref 116), (1, .int x1), (2, .int 5), (3, .int x3)] [.int x3, .int 3, .int x1, .ref 116] i a q r (by rfl) ?_
  refine ko_callI mi_k211.1 (pc := 138) (ls := [(0, .ref 116), (1, .int x1), (2, .int 5), (3, .int x3)]) (st := [.int x3, .int 3, .int x1, .ref 116]) (h := ks i a q r) (i := (.invokevirtual 360, 3, 211, 0, 9, 0, 466)) (mi_k211.2 _ _ (by rfl)) (ft_invS mi_pq211 (by rfl)) (cy := mi_c211) mi_pq211 rfl (kc211_116_l13_K5 hG.I hG.R x1 x3 (oz1339 hp0.1 hp0.2) (oz1470 hp1) (oz1568 fi_7457.1 hp2.2)) (by decide) ?_
  intro vg4 ig4 ag4 qg4 rg4 kg4 hg4
  have hGg4 := kG_call hG kg4 (by decide +kernel)
  have z5 : (ig4 7457).toInt = ((i 7457).toInt + 4) := hg4
  exact ft_ret mi_k211 (by rfl) (hP vg4 _ _ _ _ hGg4 (oz1569 z5))
def w212_116_l10_K5 : kW := ([7457], [135], [], [])
set_option maxRecDepth 100000 in
theorem kc212_116_l10_K5 {i : Nat → Int32} {a : Nat → List Int32} {q : Nat → List Int64} {r : Nat → Nat} (hI : kI i a q) (hr : kr r) (x1 : Int32) (x3 : Int32) (hp0 : ((0 : Int) ≤ x1.toInt) ∧ (x1.toInt ≤ 49)) (hp1 : ((a 134).getD x1.toNatClampNeg 0).toInt = 5) (hp2 : ((0 : Int) ≤ (i 7457).toInt) ∧ (((i 7457).toInt + 1) ≤ 900)) : km 3 212 [.ref 116, .int x1, .int 0, .int x3] (ks i a q r) (kVI w212_116_l10_K5 i a q r (fun v i1 a1 q1 r1 => (i1 7457).toInt = ((i 7457).toInt + 1))) := by
  have hG := kG_self w212_116_l10_K5 hI hr
  refine km_ofI (q := (mi_h212, mi_c212)) rfl (by decide) (Nat.le_of_ble_eq_true rfl) ?_
  intro P hP
  have r1 : ((0 : Int) ≤ ((a 134).getD x1.toNatClampNeg 0).toInt) ∧ (((a 134).getD x1.toNatClampNeg 0).toInt ≤ 7) := hG.I.2.2.1 134 (x1.toNatClampNeg)
  have fi_7457 : ((0 : Int) ≤ (i 7457).toInt) ∧ ((i 7457).toInt ≤ 1000) := hG.I.1 7457
  refine ft_go mi_k212 4 39 [(0, .ref 116), (1, .int x1), (2, .int 0), (3, .int x3)] [.int 11, .ref 116] i a q r (by rfl) ?_
  refine ko_callN mi_k212.1 (pc := 39) (ls := [(0, .ref 116), (1, .int x1), (2, .int 0), (3, .int x3)]) (st := [.int 11, .ref 116]) (h := ks i a q r) (i := (.invokevirtual 351, 3, 209, 0, 9, 0, 464)) (mi_k212.2 _ _ (by rfl)) (ft_invS mi_pq209 (by rfl)) (cy := mi_c209) mi_pq209 rfl (kc209_116 hG.I hG.R 11 (oz1529 fi_7457.1 hp2.2)) (by decide) ?_
  intro ig2 ag2 qg2 rg2 kg2 hg2
  have hGg2 := kG_call hG kg2 (by decide +kernel)
  have z3 : (ig2 7457).toInt = ((i 7457).toInt + 1) := hg2
  refine ft_go mi_k212 3 45 [(0, .ref 116), (1, .int x1), (2, .int 0), (3, .int x3)] [.int (x3 ^^^ x1)] ig2 ag2 qg2 rg2 (by rfl) ?_
  exact ft_ret mi_k212 (by rfl) (hP (x3 ^^^ x1) _ _ _ _ hGg2 (oz1355 z3))
def w212_116_l12_K5 : kW := ([7457], [135], [], [])
set_option maxRecDepth 100000 in
theorem kc212_116_l12_K5 {i : Nat → Int32} {a : Nat → List Int32} {q : Nat → List Int64} {r : Nat → Nat} (hI : kI i a q) (hr : kr r) (x1 : Int32) (x3 : Int32) (hp0 : ((0 : Int) ≤ x1.toInt) ∧ (x1.toInt ≤ 49)) (hp1 : ((a 134).getD x1.toNatClampNeg 0).toInt = 5) (hp2 : ((0 : Int) ≤ (i 7457).toInt) ∧ (((i 7457).toInt + 1) ≤ 900)) : km 5 212 [.ref 116, .int x1, .int 2, .int x3] (ks i a q r) (kVI w212_116_l12_K5 i a q r (fun v i1 a1 q1 r1 => (i1 7457).toInt = ((i 7457).toInt + 1))) := by
  have hG := kG_self w212_116_l12_K5 hI hr
  refine km_ofI (q := (mi_h212, mi_c212)) rfl (by decide) (Nat.le_of_ble_eq_true rfl) ?_
  intro P hP
  have r1 : ((0 : Int) ≤ ((a 134).getD x1.toNatClampNeg 0).toInt) ∧ (((a 134).getD x1.toNatClampNeg 0).toInt ≤ 7) := hG.I.2.2.1 134 (x1.toNatClampNeg)
  have fi_7457 : ((0 : Int) ≤ (i 7457).toInt) ∧ ((i 7457).toInt ≤ 1000) := hG.I.1 7457
  refine ft_go mi_k212 5 96 [(0, .ref 116), (1, .int x1), (2, .int 2), (3, .int x3)] [.int 2, .int x1, .ref 116] i a q r (by rfl) ?_
  refine ko_callPI mi_k212.1 (pc := 96) (ls := [(0, .ref 116), (1, .int x1), (2, .int 2), (3, .int x3)]) (st := [.int 2, .int x1, .ref 116]) (h := ks i a q r) (i := (.invokestatic 357, 3, 208, 0, 9, 0, 465)) (mi_k212.2 _ _ (by rfl)) (ft_invS mi_pq208 (by rfl)) (cy := mi_c208) mi_pq208 rfl (kc208_l02 hG.I hG.R ) (by decide) ?_
  intro vg2 hg2
  have z3 : vg2.toInt = 0 := hg2
  have evvg2 := kj_eq (oz236 z3) (by decide : (0 : Int32).toInt = 0)
  subst evvg2
  refine ft_go mi_k212 1 100 [(0, .ref 116), (1, .int x1), (2, .int 2), (3, .int x3)] [.int x3, .int 0, .int x1, .ref 116] i a q r (by rfl) ?_
  refine ko_callI mi_k212.1 (pc := 100) (ls := [(0, .ref 116), (1, .int x1), (2, .int 2), (3, .int x3)]) (st := [.int x3, .int 0, .int x1, .ref 116]) (h := ks i a q r) (i := (.invokevirtual 363, 3, 212, 0, 9, 0, 467)) (mi_k212.2 _ _ (by rfl)) (ft_invS mi_pq212 (by rfl)) (cy := mi_c212) mi_pq212 rfl (kc212_116_l10_K5 hG.I hG.R x1 x3 (oz1339 hp0.1 hp0.2) (oz1470 hp1) (oz1354 fi_7457.1 hp2.2)) (by decide) ?_
  intro vg4 ig4 ag4 qg4 rg4 kg4 hg4
  have hGg4 := kG_call hG kg4 (by decide +kernel)
  have z5 : (ig4 7457).toInt = ((i 7457).toInt + 1) := hg4
  exact ft_ret mi_k212 (by rfl) (hP vg4 _ _ _ _ hGg4 (oz1355 z5))
def w212_116_l13_K5 : kW := ([7457], [135], [], [])
set_option maxRecDepth 100000 in
theorem kc212_116_l13_K5 {i : Nat → Int32} {a : Nat → List Int32} {q : Nat → List Int64} {r : Nat → Nat} (hI : kI i a q) (hr : kr r) (x1 : Int32) (x3 : Int32) (hp0 : ((0 : Int) ≤ x1.toInt) ∧ (x1.toInt ≤ 49)) (hp1 : ((a 134).getD x1.toNatClampNeg 0).toInt = 5) (hp2 : ((0 : Int) ≤ (i 7457).toInt) ∧ (((i 7457).toInt + 2) ≤ 900)) : km 7 212 [.ref 116, .int x1, .int 3, .int x3] (ks i a q r) (kVI w212_116_l13_K5 i a q r (fun v i1 a1 q1 r1 => (i1 7457).toInt = ((i 7457).toInt + 2))) := by
  have hG := kG_self w212_116_l13_K5 hI hr
  refine km_ofI (q := (mi_h212, mi_c212)) rfl (by decide) (Nat.le_of_ble_eq_true rfl) ?_
  intro P hP
  have r1 : ((0 : Int) ≤ ((a 134).getD x1.toNatClampNeg 0).toInt) ∧ (((a 134).getD x1.toNatClampNeg 0).toInt ≤ 7) := hG.I.2.2.1 134 (x1.toNatClampNeg)
  have fi_7457 : ((0 : Int) ≤ (i 7457).toInt) ∧ ((i 7457).toInt ≤ 1000) := hG.I.1 7457
  refine ft_go mi_k212 4 49 [(0, .ref 116), (1, .int x1), (2, .int 3), (3, .int x3)] [.int 40, .ref 116] i a q r (by rfl) ?_
  refine ko_callN mi_k212.1 (pc := 49) (ls := [(0, .ref 116), (1, .int x1), (2, .int 3), (3, .int x3)]) (st := [.int 40, .ref 116]) (h := ks i a q r) (i := (.invokevirtual 351, 3, 209, 0, 9, 0, 464)) (mi_k212.2 _ _ (by rfl)) (ft_invS mi_pq209 (by rfl)) (cy := mi_c209) mi_pq209 rfl (kc209_116 hG.I hG.R 40 (oz1528 fi_7457.1 hp2.2)) (by decide) ?_
  intro ig2 ag2 qg2 rg2 kg2 hg2
  have hGg2 := kG_call hG kg2 (by decide +kernel)
  have fig2_7457 : ((0 : Int) ≤ (ig2 7457).toInt) ∧ ((ig2 7457).toInt ≤ 1000) := hGg2.I.1 7457
  have z3 : (ig2 7457).toInt = ((i 7457).toInt + 1) := hg2
  refine ft_go mi_k212 4 56 [(0, .ref 116), (1, .int x1), (2, .int 3), (3, .int x3)] [.int x3, .int 2, .int x1, .ref 116] ig2 ag2 qg2 rg2 (by rfl) ?_
  have r4 : ((0 : Int) ≤ ((ag2 134).getD x1.toNatClampNeg 0).toInt) ∧ (((ag2 134).getD x1.toNatClampNeg 0).toInt ≤ 7) := hGg2.I.2.2.1 134 (x1.toNatClampNeg)
  have u5 : ((ag2 134).getD x1.toNatClampNeg 0).toInt = ((a 134).getD x1.toNatClampNeg 0).toInt := congrArg (fun z : List Int32 => (z.getD x1.toNatClampNeg 0).toInt) (kg2.fa 134 rfl)
  refine ko_callI mi_k212.1 (pc := 56) (ls := [(0, .ref 116), (1, .int x1), (2, .int 3), (3, .int x3)]) (st := [.int x3, .int 2, .int x1, .ref 116]) (h := ks ig2 ag2 qg2 rg2) (i := (.invokevirtual 363, 3, 212, 0, 9, 0, 467)) (mi_k212.2 _ _ (by rfl)) (ft_invS mi_pq212 (by rfl)) (cy := mi_c212) mi_pq212 rfl (kc212_116_l12_K5 hGg2.I hGg2.R x1 x3 (oz1339 hp0.1 hp0.2) (oz1471 hp1 u5) (oz1530 fig2_7457.1 hp2.2 z3)) (by decide) ?_
  intro vg6 ig6 ag6 qg6 rg6 kg6 hg6
  have hGg6 := kG_call hGg2 kg6 (by decide +kernel)
  have z7 : (ig6 7457).toInt = ((ig2 7457).toInt + 1) := hg6
  have b8 : ((-2147483648 : Int) ≤ vg6.toInt) ∧ (vg6.toInt ≤ 2147483647) := kd_bd vg6
  refine ft_go mi_k212 2 61 [(0, .ref 116), (1, .int x1), (2, .int 3), (3, .int x3)] [.int (vg6 * 3)] ig6 ag6 qg6 rg6 (by rfl) ?_
  exact ft_ret mi_k212 (by rfl) (hP (vg6 * 3) _ _ _ _ hGg6 (oz1531 z3 z7))
def w212_116_l15_K5 : kW := ([7457], [135], [], [])
set_option maxRecDepth 100000 in
theorem kc212_116_l15_K5 {i : Nat → Int32} {a : Nat → List Int32} {q : Nat → List Int64} {r : Nat → Nat} (hI : kI i a q) (hr : kr r) (x1 : Int32) (x3 : Int32) (hp0 : ((0 : Int) ≤ x1.toInt) ∧ (x1.toInt ≤ 49)) (hp1 : ((a 134).getD x1.toNatClampNeg 0).toInt = 5) (hp2 : ((0 : Int) ≤ (i 7457).toInt) ∧ (((i 7457).toInt + 2) ≤ 900)) : km 9 212 [.ref 116, .int x1, .int 5, .int x3] (ks i a q r) (kVI w212_116_l15_K5 i a q r (fun v i1 a1 q1 r1 => (i1 7457).toInt = ((i 7457).toInt + 2))) := by
  have hG := kG_self w212_116_l15_K5 hI hr
  refine km_ofI (q := (mi_h212, mi_c212)) rfl (by decide) (Nat.le_of_ble_eq_true rfl) ?_
  intro P hP
  have r1 : ((0 : Int) ≤ ((a 134).getD x1.toNatClampNeg 0).toInt) ∧ (((a 134).getD x1.toNatClampNeg 0).toInt ≤ 7) := hG.I.2.2.1 134 (x1.toNatClampNeg)
  have fi_7457 : ((0 : Int) ≤ (i 7457).toInt) ∧ ((i 7457).toInt ≤ 1000) := hG.I.1 7457
  refine ft_go mi_k212 5 96 [(0, .ref 116), (1, .int x1), (2, .int 5), (3, .int x3)] [.int 5, .int x1, .ref 116] i a q r (by rfl) ?_
  refine ko_callPI mi_k212.1 (pc := 96) (ls := [(0, .ref 116), (1, .int x1), (2, .int 5), (3, .int x3)]) (st := [.int 5, .int x1, .ref 116]) (h := ks i a q r) (i := (.invokestatic 357, 3, 208, 0, 9, 0, 465)) (mi_k212.2 _ _ (by rfl)) (ft_invS mi_pq208 (by rfl)) (cy := mi_c208) mi_pq208 rfl (kc208_l05 hG.I hG.R ) (by decide) ?_
  intro vg2 hg2
  have z3 : vg2.toInt = 3 := hg2
  have evvg2 := kj_eq (oz1421 z3) (by decide : (3 : Int32).toInt = 3)
  subst evvg2
  refine ft_go mi_k212 1 100 [(0, .ref 116), (1, .int x1), (2, .int 5), (3, .int x3)] [.int x3, .int 3, .int x1, .ref 116] i a q r (by rfl) ?_
  refine ko_callI mi_k212.1 (pc := 100) (ls := [(0, .ref 116), (1, .int x1), (2, .int 5), (3, .int x3)]) (st := [.int x3, .int 3, .int x1, .ref 116]) (h := ks i a q r) (i := (.invokevirtual 363, 3, 212, 0, 9, 0, 467)) (mi_k212.2 _ _ (by rfl)) (ft_invS mi_pq212 (by rfl)) (cy := mi_c212) mi_pq212 rfl (kc212_116_l13_K5 hG.I hG.R x1 x3 (oz1339 hp0.1 hp0.2) (oz1470 hp1) (oz1386 fi_7457.1 hp2.2)) (by decide) ?_
  intro vg4 ig4 ag4 qg4 rg4 kg4 hg4
  have hGg4 := kG_call hG kg4 (by decide +kernel)
  have z5 : (ig4 7457).toInt = ((i 7457).toInt + 2) := hg4
  exact ft_ret mi_k212 (by rfl) (hP vg4 _ _ _ _ hGg4 (oz1387 z5))
def w213_116_l10_K5 : kW := ([7457], [135], [], [])
set_option maxRecDepth 100000 in
theorem kc213_116_l10_K5 {i : Nat → Int32} {a : Nat → List Int32} {q : Nat → List Int64} {r : Nat → Nat} (hI : kI i a q) (hr : kr r) (x1 : Int32) (x3 : Int32) (hp0 : ((0 : Int) ≤ x1.toInt) ∧ (x1.toInt ≤ 49)) (hp1 : ((a 134).getD x1.toNatClampNeg 0).toInt = 5) (hp2 : ((0 : Int) ≤ (i 7457).toInt) ∧ (((i 7457).toInt + 7) ≤ 900)) : km 19 213 [.ref 116, .int x1, .int 0, .int x3] (ks i a q r) (kVI w213_116_l10_K5 i a q r (fun v i1 a1 q1 r1 => (i1 7457).toInt = ((i 7457).toInt + 7))) := by
  have hG := kG_self w213_116_l10_K5 hI hr
  refine km_ofI (q := (mi_h213, mi_c213)) rfl (by decide) (Nat.le_of_ble_eq_true rfl) ?_
  intro P hP
  have r1 : ((0 : Int) ≤ ((a 134).getD x1.toNatClampNeg 0).toInt) ∧ (((a 134).getD x1.toNatClampNeg 0).toInt ≤ 7) := hG.I.2.2.1 134 (x1.toNatClampNeg)
  have fi_7457 : ((0 : Int) ≤ (i 7457).toInt) ∧ ((i 7457).toInt ≤ 1000) := hG.I.1 7457
  refine ft_go mi_k213 4 38 [(0, .ref 116), (1, .int x1), (2, .int 0), (3, .int x3)] [.int 2, .ref 116] i a q r (by rfl) ?_
  refine ko_callN mi_k213.1 (pc := 38) (ls := [(0, .ref 116), (1, .int x1), (2, .int 0), (3, .int x3)]) (st := [.int 2, .ref 116]) (h := ks i a q r) (i := (.invokevirtual 351, 3, 209, 0, 9, 0, 464)) (mi_k213.2 _ _ (by rfl)) (ft_invS mi_pq209 (by rfl)) (cy := mi_c209) mi_pq209 rfl (kc209_116 hG.I hG.R 2 (oz1550 fi_7457.1 hp2.2)) (by decide) ?_
  intro ig2 ag2 qg2 rg2 kg2 hg2
  have hGg2 := kG_call hG kg2 (by decide +kernel)
  have fig2_7457 : ((0 : Int) ≤ (ig2 7457).toInt) ∧ ((ig2 7457).toInt ≤ 1000) := hGg2.I.1 7457
  have z3 : (ig2 7457).toInt = ((i 7457).toInt + 1) := hg2
  refine ft_go mi_k213 5 48 [(0, .ref 116), (1, .int x1), (2, .int 0), (3, .int x3)] [.int x1, .ref 134, .int x1, .ref 116] ig2 ag2 qg2 rg2 (by rfl) ?_
  refine ko_iald3 mi_k213.1 (n := 50) (c := 50) (ax := (0, 0, 0, 0, 0)) (mi_k213.2 _ _ (by rfl)) (by rfl) (ksG134 _ _ _ _) (hGg2.I.2.1 134) rfl (oz3 hp0.1) (oz1336 hp0.2) ?_
  have r4 : ((0 : Int) ≤ ((ag2 134).getD x1.toNatClampNeg 0).toInt) ∧ (((ag2 134).getD x1.toNatClampNeg 0).toInt ≤ 7) := hGg2.I.2.2.1 134 (x1.toNatClampNeg)
  have u5 : ((ag2 134).getD x1.toNatClampNeg 0).toInt = ((a 134).getD x1.toNatClampNeg 0).toInt := congrArg (fun z : List Int32 => (z.getD x1.toNatClampNeg 0).toInt) (kg2.fa 134 rfl)
  refine ko_eq (x1 := (49, [(0, .ref 116), (1, .int x1), (2, .int 0), (3, .int x3)], [.int 5, .int x1, .ref 116], (0, 0), ks ig2 ag2 qg2 rg2)) (by rw [(kj_eq (oz1471 hp1 u5) (by decide) : ((ag2 134).getD x1.toNatClampNeg 0) = 5)]) ?_
  refine ft_go mi_k213 1 50 [(0, .ref 116), (1, .int x1), (2, .int 0), (3, .int x3)] [.int x3, .int 5, .int x1, .ref 116] ig2 ag2 qg2 rg2 (by rfl) ?_
  refine ko_callI mi_k213.1 (pc := 50) (ls := [(0, .ref 116), (1, .int x1), (2, .int 0), (3, .int x3)]) (st := [.int x3, .int 5, .int x1, .ref 116]) (h := ks ig2 ag2 qg2 rg2) (i := (.invokevirtual 360, 3, 211, 0, 9, 0, 466)) (mi_k213.2 _ _ (by rfl)) (ft_invS mi_pq211 (by rfl)) (cy := mi_c211) mi_pq211 rfl (kc211_116_l15_K5 hGg2.I hGg2.R x1 x3 (oz1339 hp0.1 hp0.2) (oz1471 hp1 u5) (oz1553 fig2_7457.1 hp2.2 z3)) (by decide) ?_
  intro vg6 ig6 ag6 qg6 rg6 kg6 hg6
  have hGg6 := kG_call hGg2 kg6 (by decide +kernel)
  have fig6_7457 : ((0 : Int) ≤ (ig6 7457).toInt) ∧ ((ig6 7457).toInt ≤ 1000) := hGg6.I.1 7457
  have z7 : (ig6 7457).toInt = ((ig2 7457).toInt + 4) := hg6
  refine ft_go mi_k213 7 64 [(4, .int vg6), (0, .ref 116), (1, .int x1), (2, .int 0), (3, .int x3)] [.int x1, .ref 134, .int x1, .ref 116, .int vg6] ig6 ag6 qg6 rg6 (by rfl) ?_
  refine ko_iald3 mi_k213.1 (n := 50) (c := 50) (ax := (0, 0, 0, 0, 0)) (mi_k213.2 _ _ (by rfl)) (by rfl) (ksG134 _ _ _ _) (hGg6.I.2.1 134) rfl (oz3 hp0.1) (oz1336 hp0.2) ?_
  have r8 : ((0 : Int) ≤ ((ag6 134).getD x1.toNatClampNeg 0).toInt) ∧ (((ag6 134).getD x1.toNatClampNeg 0).toInt ≤ 7) := hGg6.I.2.2.1 134 (x1.toNatClampNeg)
  have u9 : ((ag6 134).getD x1.toNatClampNeg 0).toInt = ((ag2 134).getD x1.toNatClampNeg 0).toInt := congrArg (fun z : List Int32 => (z.getD x1.toNatClampNeg 0).toInt) (kg6.fa 134 rfl)
  refine ko_eq (x1 := (65, [(4, .int vg6), (0, .ref 116), (1, .int x1), (2, .int 0), (3, .int x3)], [.int 5, .int x1, .ref 116, .int vg6], (0, 0), ks ig6 ag6 qg6 rg6)) (by rw [(kj_eq (oz1570 hp1 u5 u9) (by decide) : ((ag6 134).getD x1.toNatClampNeg 0) = 5)]) ?_
  refine ft_go mi_k213 1 66 [(4, .int vg6), (0, .ref 116), (1, .int x1), (2, .int 0), (3, .int x3)] [.int 1, .int 5, .int x1, .ref 116, .int vg6] ig6 ag6 qg6 rg6 (by rfl) ?_
  refine ko_callI mi_k213.1 (pc := 66) (ls := [(4, .int vg6), (0, .ref 116), (1, .int x1), (2, .int 0), (3, .int x3)]) (st := [.int 1, .int 5, .int x1, .ref 116, .int vg6]) (h := ks ig6 ag6 qg6 rg6) (i := (.invokevirtual 363, 3, 212, 0, 9, 0, 467)) (mi_k213.2 _ _ (by rfl)) (ft_invS mi_pq212 (by rfl)) (cy := mi_c212) mi_pq212 rfl (kc212_116_l15_K5 hGg6.I hGg6.R x1 1 (oz1339 hp0.1 hp0.2) (oz1570 hp1 u5 u9) (oz1555 fig6_7457.1 hp2.2 z3 z7)) (by decide) ?_
  intro vg10 ig10 ag10 qg10 rg10 kg10 hg10
  have hGg10 := kG_call hGg6 kg10 (by decide +kernel)
  have z11 : (ig10 7457).toInt = ((ig6 7457).toInt + 2) := hg10
  have b12 : ((-2147483648 : Int) ≤ vg6.toInt) ∧ (vg6.toInt ≤ 2147483647) := kd_bd vg6
  have b13 : ((-2147483648 : Int) ≤ vg10.toInt) ∧ (vg10.toInt ≤ 2147483647) := kd_bd vg10
  refine ft_go mi_k213 1 70 [(4, .int vg6), (0, .ref 116), (1, .int x1), (2, .int 0), (3, .int x3)] [.int (vg6 - vg10)] ig10 ag10 qg10 rg10 (by rfl) ?_
  exact ft_ret mi_k213 (by rfl) (hP (vg6 - vg10) _ _ _ _ hGg10 (oz1556 z11 z3 z7))
def w213_116_l12_K5 : kW := ([7457], [135], [], [])
set_option maxRecDepth 100000 in
theorem kc213_116_l12_K5 {i : Nat → Int32} {a : Nat → List Int32} {q : Nat → List Int64} {r : Nat → Nat} (hI : kI i a q) (hr : kr r) (x1 : Int32) (x3 : Int32) (hp0 : ((0 : Int) ≤ x1.toInt) ∧ (x1.toInt ≤ 49)) (hp1 : ((a 134).getD x1.toNatClampNeg 0).toInt = 5) (hp2 : ((0 : Int) ≤ (i 7457).toInt) ∧ (((i 7457).toInt + 7) ≤ 900)) : km 21 213 [.ref 116, .int x1, .int 2, .int x3] (ks i a q r) (kVI w213_116_l12_K5 i a q r (fun v i1 a1 q1 r1 => (i1 7457).toInt = ((i 7457).toInt + 7))) := by
  have hG := kG_self w213_116_l12_K5 hI hr
  refine km_ofI (q := (mi_h213, mi_c213)) rfl (by decide) (Nat.le_of_ble_eq_true rfl) ?_
  intro P hP
  have r1 : ((0 : Int) ≤ ((a 134).getD x1.toNatClampNeg 0).toInt) ∧ (((a 134).getD x1.toNatClampNeg 0).toInt ≤ 7) := hG.I.2.2.1 134 (x1.toNatClampNeg)
  have fi_7457 : ((0 : Int) ≤ (i 7457).toInt) ∧ ((i 7457).toInt ≤ 1000) := hG.I.1 7457
  refine ft_go mi_k213 5 106 [(0, .ref 116), (1, .int x1), (2, .int 2), (3, .int x3)] [.int 2, .int x1, .ref 116] i a q r (by rfl) ?_
  refine ko_callPI mi_k213.1 (pc := 106) (ls := [(0, .ref 116), (1, .int x1), (2, .int 2), (3, .int x3)]) (st := [.int 2, .int x1, .ref 116]) (h := ks i a q r) (i := (.invokestatic 357, 3, 208, 0, 9, 0, 465)) (mi_k213.2 _ _ (by rfl)) (ft_invS mi_pq208 (by rfl)) (cy := mi_c208) mi_pq208 rfl (kc208_l02 hG.I hG.R ) (by decide) ?_
  intro vg2 hg2
  have z3 : vg2.toInt = 0 := hg2
  have evvg2 := kj_eq (oz236 z3) (by decide : (0 : Int32).toInt = 0)
  subst evvg2
  refine ft_go mi_k213 1 110 [(0, .ref 116), (1, .int x1), (2, .int 2), (3, .int x3)] [.int x3, .int 0, .int x1, .ref 116] i a q r (by rfl) ?_
  refine ko_callI mi_k213.1 (pc := 110) (ls := [(0, .ref 116), (1, .int x1), (2, .int 2), (3, .int x3)]) (st := [.int x3, .int 0, .int x1, .ref 116]) (h := ks i a q r) (i := (.invokevirtual 366, 3, 213, 0, 9, 0, 468)) (mi_k213.2 _ _ (by rfl)) (ft_invS mi_pq213 (by rfl)) (cy := mi_c213) mi_pq213 rfl (kc213_116_l10_K5 hG.I hG.R x1 x3 (oz1339 hp0.1 hp0.2) (oz1470 hp1) (oz1557 fi_7457.1 hp2.2)) (by decide) ?_
  intro vg4 ig4 ag4 qg4 rg4 kg4 hg4
  have hGg4 := kG_call hG kg4 (by decide +kernel)
  have z5 : (ig4 7457).toInt = ((i 7457).toInt + 7) := hg4
  exact ft_ret mi_k213 (by rfl) (hP vg4 _ _ _ _ hGg4 (oz1558 z5))
def w213_116_l13_K5 : kW := ([7457], [135], [], [])
set_option maxRecDepth 100000 in
theorem kc213_116_l13_K5 {i : Nat → Int32} {a : Nat → List Int32} {q : Nat → List Int64} {r : Nat → Nat} (hI : kI i a q) (hr : kr r) (x1 : Int32) (x3 : Int32) (hp0 : ((0 : Int) ≤ x1.toInt) ∧ (x1.toInt ≤ 49)) (hp1 : ((a 134).getD x1.toNatClampNeg 0).toInt = 5) (hp2 : ((0 : Int) ≤ (i 7457).toInt) ∧ (((i 7457).toInt + 7) ≤ 900)) : km 23 213 [.ref 116, .int x1, .int 3, .int x3] (ks i a q r) (kVI w213_116_l13_K5 i a q r (fun v i1 a1 q1 r1 => (i1 7457).toInt = ((i 7457).toInt + 7))) := by
  have hG := kG_self w213_116_l13_K5 hI hr
  refine km_ofI (q := (mi_h213, mi_c213)) rfl (by decide) (Nat.le_of_ble_eq_true rfl) ?_
  intro P hP
  have r1 : ((0 : Int) ≤ ((a 134).getD x1.toNatClampNeg 0).toInt) ∧ (((a 134).getD x1.toNatClampNeg 0).toInt ≤ 7) := hG.I.2.2.1 134 (x1.toNatClampNeg)
  have fi_7457 : ((0 : Int) ≤ (i 7457).toInt) ∧ ((i 7457).toInt ≤ 1000) := hG.I.1 7457
  refine ft_go mi_k213 5 106 [(0, .ref 116), (1, .int x1), (2, .int 3), (3, .int x3)] [.int 3, .int x1, .ref 116] i a q r (by rfl) ?_
  refine ko_callPI mi_k213.1 (pc := 106) (ls := [(0, .ref 116), (1, .int x1), (2, .int 3), (3, .int x3)]) (st := [.int 3, .int x1, .ref 116]) (h := ks i a q r) (i := (.invokestatic 357, 3, 208, 0, 9, 0, 465)) (mi_k213.2 _ _ (by rfl)) (ft_invS mi_pq208 (by rfl)) (cy := mi_c208) mi_pq208 rfl (kc208_l03 hG.I hG.R ) (by decide) ?_
  intro vg2 hg2
  have z3 : vg2.toInt = 2 := hg2
  have evvg2 := kj_eq (oz1411 z3) (by decide : (2 : Int32).toInt = 2)
  subst evvg2
  refine ft_go mi_k213 1 110 [(0, .ref 116), (1, .int x1), (2, .int 3), (3, .int x3)] [.int x3, .int 2, .int x1, .ref 116] i a q r (by rfl) ?_
  refine ko_callI mi_k213.1 (pc := 110) (ls := [(0, .ref 116), (1, .int x1), (2, .int 3), (3, .int x3)]) (st := [.int x3, .int 2, .int x1, .ref 116]) (h := ks i a q r) (i := (.invokevirtual 366, 3, 213, 0, 9, 0, 468)) (mi_k213.2 _ _ (by rfl)) (ft_invS mi_pq213 (by rfl)) (cy := mi_c213) mi_pq213 rfl (kc213_116_l12_K5 hG.I hG.R x1 x3 (oz1339 hp0.1 hp0.2) (oz1470 hp1) (oz1557 fi_7457.1 hp2.2)) (by decide) ?_
  intro vg4 ig4 ag4 qg4 rg4 kg4 hg4
  have hGg4 := kG_call hG kg4 (by decide +kernel)
  have z5 : (ig4 7457).toInt = ((i 7457).toInt + 7) := hg4
  exact ft_ret mi_k213 (by rfl) (hP vg4 _ _ _ _ hGg4 (oz1558 z5))
def w213_116_l15_K5 : kW := ([7457], [135], [], [])
set_option maxRecDepth 100000 in
theorem kc213_116_l15_K5 {i : Nat → Int32} {a : Nat → List Int32} {q : Nat → List Int64} {r : Nat → Nat} (hI : kI i a q) (hr : kr r) (x1 : Int32) (x3 : Int32) (hp0 : ((0 : Int) ≤ x1.toInt) ∧ (x1.toInt ≤ 49)) (hp1 : ((a 134).getD x1.toNatClampNeg 0).toInt = 5) (hp2 : ((0 : Int) ≤ (i 7457).toInt) ∧ (((i 7457).toInt + 8) ≤ 900)) : km 25 213 [.ref 116, .int x1, .int 5, .int x3] (ks i a q r) (kVI w213_116_l15_K5 i a q r (fun v i1 a1 q1 r1 => (i1 7457).toInt = ((i 7457).toInt + 8))) := by
  have hG := kG_self w213_116_l15_K5 hI hr
  refine km_ofI (q := (mi_h213, mi_c213)) rfl (by decide) (Nat.le_of_ble_eq_true rfl) ?_
  intro P hP
  have r1 : ((0 : Int) ≤ ((a 134).getD x1.toNatClampNeg 0).toInt) ∧ (((a 134).getD x1.toNatClampNeg 0).toInt ≤ 7) := hG.I.2.2.1 134 (x1.toNatClampNeg)
  have fi_7457 : ((0 : Int) ≤ (i 7457).toInt) ∧ ((i 7457).toInt ≤ 1000) := hG.I.1 7457
  refine ft_go mi_k213 4 74 [(0, .ref 116), (1, .int x1), (2, .int 5), (3, .int x3)] [.int 60, .ref 116] i a q r (by rfl) ?_
  refine ko_callN mi_k213.1 (pc := 74) (ls := [(0, .ref 116), (1, .int x1), (2, .int 5), (3, .int x3)]) (st := [.int 60, .ref 116]) (h := ks i a q r) (i := (.invokevirtual 351, 3, 209, 0, 9, 0, 464)) (mi_k213.2 _ _ (by rfl)) (ft_invS mi_pq209 (by rfl)) (cy := mi_c209) mi_pq209 rfl (kc209_116 hG.I hG.R 60 (oz1559 fi_7457.1 hp2.2)) (by decide) ?_
  intro ig2 ag2 qg2 rg2 kg2 hg2
  have hGg2 := kG_call hG kg2 (by decide +kernel)
  have fig2_7457 : ((0 : Int) ≤ (ig2 7457).toInt) ∧ ((ig2 7457).toInt ≤ 1000) := hGg2.I.1 7457
  have z3 : (ig2 7457).toInt = ((i 7457).toInt + 1) := hg2
  refine ft_go mi_k213 4 81 [(0, .ref 116), (1, .int x1), (2, .int 5), (3, .int x3)] [.int x3, .int 3, .int x1, .ref 116] ig2 ag2 qg2 rg2 (by rfl) ?_
  have r4 : ((0 : Int) ≤ ((ag2 134).getD x1.toNatClampNeg 0).toInt) ∧ (((ag2 134).getD x1.toNatClampNeg 0).toInt ≤ 7) := hGg2.I.2.2.1 134 (x1.toNatClampNeg)
  have u5 : ((ag2 134).getD x1.toNatClampNeg 0).toInt = ((a 134).getD x1.toNatClampNeg 0).toInt := congrArg (fun z : List Int32 => (z.getD x1.toNatClampNeg 0).toInt) (kg2.fa 134 rfl)
  refine ko_callI mi_k213.1 (pc := 81) (ls := [(0, .ref 116), (1, .int x1), (2, .int 5), (3, .int x3)]) (st := [.int x3, .int 3, .int x1, .ref 116]) (h := ks ig2 ag2 qg2 rg2) (i := (.invokevirtual 366, 3, 213, 0, 9, 0, 468)) (mi_k213.2 _ _ (by rfl)) (ft_invS mi_pq213 (by rfl)) (cy := mi_c213) mi_pq213 rfl (kc213_116_l13_K5 hGg2.I hGg2.R x1 x3 (oz1339 hp0.1 hp0.2) (oz1471 hp1 u5) (oz1571 fig2_7457.1 hp2.2 z3)) (by decide) ?_
  intro vg6 ig6 ag6 qg6 rg6 kg6 hg6
  have hGg6 := kG_call hGg2 kg6 (by decide +kernel)
  have z7 : (ig6 7457).toInt = ((ig2 7457).toInt + 7) := hg6
  refine ft_go mi_k213 2 86 [(0, .ref 116), (1, .int x1), (2, .int 5), (3, .int x3)] [.int (vg6 ^^^ 5)] ig6 ag6 qg6 rg6 (by rfl) ?_
  exact ft_ret mi_k213 (by rfl) (hP (vg6 ^^^ 5) _ _ _ _ hGg6 (oz1572 z3 z7))
set_option maxRecDepth 100000 in
theorem kc208_l06 {i : Nat → Int32} {a : Nat → List Int32} {q : Nat → List Int64} {r : Nat → Nat} (hI : kI i a q) (hr : kr r)  : km 1 208 [.int 6] (ks i a q r) (kPI (ks i a q r) (fun v => v.toInt = 0)) := by
  have hG := kG_self kW0 hI hr
  refine km_ofPI (q := (mi_h208, mi_c208)) rfl (by decide) (Nat.le_of_ble_eq_true rfl) ?_
  intro P hP
  refine ft_go mi_k208 3 45 [(0, .int 6)] [.int 0] i a q r (by rfl) ?_
  exact ft_ret mi_k208 (by rfl) (hP 0 (oz236 kn0))
def w210_116_l10_K6 : kW := ([7457], [135], [], [])
set_option maxRecDepth 100000 in
theorem kc210_116_l10_K6 {i : Nat → Int32} {a : Nat → List Int32} {q : Nat → List Int64} {r : Nat → Nat} (hI : kI i a q) (hr : kr r) (x1 : Int32) (x3 : Int32) (hp0 : ((0 : Int) ≤ x1.toInt) ∧ (x1.toInt ≤ 49)) (hp1 : ((a 134).getD x1.toNatClampNeg 0).toInt = 6) (hp2 : ((0 : Int) ≤ (i 7457).toInt) ∧ (((i 7457).toInt + 1) ≤ 900)) : km 3 210 [.ref 116, .int x1, .int 0, .int x3] (ks i a q r) (kVI w210_116_l10_K6 i a q r (fun v i1 a1 q1 r1 => (i1 7457).toInt = ((i 7457).toInt + 1))) := by
  have hG := kG_self w210_116_l10_K6 hI hr
  refine km_ofI (q := (mi_h210, mi_c210)) rfl (by decide) (Nat.le_of_ble_eq_true rfl) ?_
  intro P hP
  have r1 : ((0 : Int) ≤ ((a 134).getD x1.toNatClampNeg 0).toInt) ∧ (((a 134).getD x1.toNatClampNeg 0).toInt ≤ 7) := hG.I.2.2.1 134 (x1.toNatClampNeg)
  have fi_7457 : ((0 : Int) ≤ (i 7457).toInt) ∧ ((i 7457).toInt ≤ 1000) := hG.I.1 7457
  refine ft_go mi_k210 4 38 [(0, .ref 116), (1, .int x1), (2, .int 0), (3, .int x3)] [.int 1, .ref 116] i a q r (by rfl) ?_
  refine ko_callN mi_k210.1 (pc := 38) (ls := [(0, .ref 116), (1, .int x1), (2, .int 0), (3, .int x3)]) (st := [.int 1, .ref 116]) (h := ks i a q r) (i := (.invokevirtual 351, 3, 209, 0, 9, 0, 464)) (mi_k210.2 _ _ (by rfl)) (ft_invS mi_pq209 (by rfl)) (cy := mi_c209) mi_pq209 rfl (kc209_116 hG.I hG.R 1 (oz1529 fi_7457.1 hp2.2)) (by decide) ?_
  intro ig2 ag2 qg2 rg2 kg2 hg2
  have hGg2 := kG_call hG kg2 (by decide +kernel)
  have z3 : (ig2 7457).toInt = ((i 7457).toInt + 1) := hg2
  have b4 : ((-2147483648 : Int) ≤ x3.toInt) ∧ (x3.toInt ≤ 2147483647) := kd_bd x3
  have b5 : ((-2147483648 : Int) ≤ x1.toInt) ∧ (x1.toInt ≤ 2147483647) := kd_bd x1
  refine ft_go mi_k210 3 44 [(0, .ref 116), (1, .int x1), (2, .int 0), (3, .int x3)] [.int (x3 + x1)] ig2 ag2 qg2 rg2 (by rfl) ?_
  exact ft_ret mi_k210 (by rfl) (hP (x3 + x1) _ _ _ _ hGg2 (oz1355 z3))
def w210_116_l16_K6 : kW := ([7457], [135], [], [])
set_option maxRecDepth 100000 in
theorem kc210_116_l16_K6 {i : Nat → Int32} {a : Nat → List Int32} {q : Nat → List Int64} {r : Nat → Nat} (hI : kI i a q) (hr : kr r) (x1 : Int32) (x3 : Int32) (hp0 : ((0 : Int) ≤ x1.toInt) ∧ (x1.toInt ≤ 49)) (hp1 : ((a 134).getD x1.toNatClampNeg 0).toInt = 6) (hp2 : ((0 : Int) ≤ (i 7457).toInt) ∧ (((i 7457).toInt + 2) ≤ 900)) : km 5 210 [.ref 116, .int x1, .int 6, .int x3] (ks i a q r) (kVI w210_116_l16_K6 i a q r (fun v i1 a1 q1 r1 => (i1 7457).toInt = ((i 7457).toInt + 2))) := by
  have hG := kG_self w210_116_l16_K6 hI hr
  refine km_ofI (q := (mi_h210, mi_c210)) rfl (by decide) (Nat.le_of_ble_eq_true rfl) ?_
  intro P hP
  have r1 : ((0 : Int) ≤ ((a 134).getD x1.toNatClampNeg 0).toInt) ∧ (((a 134).getD x1.toNatClampNeg 0).toInt ≤ 7) := hG.I.2.2.1 134 (x1.toNatClampNeg)
  have fi_7457 : ((0 : Int) ≤ (i 7457).toInt) ∧ ((i 7457).toInt ≤ 1000) := hG.I.1 7457
  refine ft_go mi_k210 4 64 [(0, .ref 116), (1, .int x1), (2, .int 6), (3, .int x3)] [.int 70, .ref 116] i a q r (by rfl) ?_
  refine ko_callN mi_k210.1 (pc := 64) (ls := [(0, .ref 116), (1, .int x1), (2, .int 6), (3, .int x3)]) (st := [.int 70, .ref 116]) (h := ks i a q r) (i := (.invokevirtual 351, 3, 209, 0, 9, 0, 464)) (mi_k210.2 _ _ (by rfl)) (ft_invS mi_pq209 (by rfl)) (cy := mi_c209) mi_pq209 rfl (kc209_116 hG.I hG.R 70 (oz1528 fi_7457.1 hp2.2)) (by decide) ?_
  intro ig2 ag2 qg2 rg2 kg2 hg2
  have hGg2 := kG_call hG kg2 (by decide +kernel)
  have fig2_7457 : ((0 : Int) ≤ (ig2 7457).toInt) ∧ ((ig2 7457).toInt ≤ 1000) := hGg2.I.1 7457
  have z3 : (ig2 7457).toInt = ((i 7457).toInt + 1) := hg2
  refine ft_go mi_k210 4 71 [(0, .ref 116), (1, .int x1), (2, .int 6), (3, .int x3)] [.int x3, .int 0, .int x1, .ref 116] ig2 ag2 qg2 rg2 (by rfl) ?_
  have r4 : ((0 : Int) ≤ ((ag2 134).getD x1.toNatClampNeg 0).toInt) ∧ (((ag2 134).getD x1.toNatClampNeg 0).toInt ≤ 7) := hGg2.I.2.2.1 134 (x1.toNatClampNeg)
  have u5 : ((ag2 134).getD x1.toNatClampNeg 0).toInt = ((a 134).getD x1.toNatClampNeg 0).toInt := congrArg (fun z : List Int32 => (z.getD x1.toNatClampNeg 0).toInt) (kg2.fa 134 rfl)
  refine ko_callI mi_k210.1 (pc := 71) (ls := [(0, .ref 116), (1, .int x1), (2, .int 6), (3, .int x3)]) (st := [.int x3, .int 0, .int x1, .ref 116]) (h := ks ig2 ag2 qg2 rg2) (i := (.invokevirtual 354, 3, 210, 0, 9, 0, 463)) (mi_k210.2 _ _ (by rfl)) (ft_invS mi_pq210 (by rfl)) (cy := mi_c210) mi_pq210 rfl (kc210_116_l10_K6 hGg2.I hGg2.R x1 x3 (oz1339 hp0.1 hp0.2) (oz1486 hp1 u5) (oz1530 fig2_7457.1 hp2.2 z3)) (by decide) ?_
  intro vg6 ig6 ag6 qg6 rg6 kg6 hg6
  have hGg6 := kG_call hGg2 kg6 (by decide +kernel)
  have z7 : (ig6 7457).toInt = ((ig2 7457).toInt + 1) := hg6
  have b8 : ((-2147483648 : Int) ≤ vg6.toInt) ∧ (vg6.toInt ≤ 2147483647) := kd_bd vg6
  refine ft_go mi_k210 2 76 [(0, .ref 116), (1, .int x1), (2, .int 6), (3, .int x3)] [.int (vg6 * 2)] ig6 ag6 qg6 rg6 (by rfl) ?_
  exact ft_ret mi_k210 (by rfl) (hP (vg6 * 2) _ _ _ _ hGg6 (oz1531 z3 z7))
def w211_116_l10_K6 : kW := ([7457], [135], [], [])
set_option maxRecDepth 100000 in
theorem kc211_116_l10_K6 {i : Nat → Int32} {a : Nat → List Int32} {q : Nat → List Int64} {r : Nat → Nat} (hI : kI i a q) (hr : kr r) (x1 : Int32) (x3 : Int32) (hp0 : ((0 : Int) ≤ x1.toInt) ∧ (x1.toInt ≤ 49)) (hp1 : ((a 134).getD x1.toNatClampNeg 0).toInt = 6) (hp2 : ((0 : Int) ≤ (i 7457).toInt) ∧ (((i 7457).toInt + 3) ≤ 900)) : km 7 211 [.ref 116, .int x1, .int 0, .int x3] (ks i a q r) (kVI w211_116_l10_K6 i a q r (fun v i1 a1 q1 r1 => (i1 7457).toInt = ((i 7457).toInt + 3))) := by
  have hG := kG_self w211_116_l10_K6 hI hr
  refine km_ofI (q := (mi_h211, mi_c211)) rfl (by decide) (Nat.le_of_ble_eq_true rfl) ?_
  intro P hP
  have r1 : ((0 : Int) ≤ ((a 134).getD x1.toNatClampNeg 0).toInt) ∧ (((a 134).getD x1.toNatClampNeg 0).toInt ≤ 7) := hG.I.2.2.1 134 (x1.toNatClampNeg)
  have fi_7457 : ((0 : Int) ≤ (i 7457).toInt) ∧ ((i 7457).toInt ≤ 1000) := hG.I.1 7457
  refine ft_go mi_k211 4 51 [(0, .ref 116), (1, .int x1), (2, .int 0), (3, .int x3)] [.int 10, .ref 116] i a q r (by rfl) ?_
  refine ko_callN mi_k211.1 (pc := 51) (ls := [(0, .ref 116), (1, .int x1), (2, .int 0), (3, .int x3)]) (st := [.int 10, .ref 116]) (h := ks i a q r) (i := (.invokevirtual 351, 3, 209, 0, 9, 0, 464)) (mi_k211.2 _ _ (by rfl)) (ft_invS mi_pq209 (by rfl)) (cy := mi_c209) mi_pq209 rfl (kc209_116 hG.I hG.R 10 (oz1538 fi_7457.1 hp2.2)) (by decide) ?_
  intro ig2 ag2 qg2 rg2 kg2 hg2
  have hGg2 := kG_call hG kg2 (by decide +kernel)
  have fig2_7457 : ((0 : Int) ≤ (ig2 7457).toInt) ∧ ((ig2 7457).toInt ≤ 1000) := hGg2.I.1 7457
  have z3 : (ig2 7457).toInt = ((i 7457).toInt + 1) := hg2
  refine ft_go mi_k211 5 61 [(0, .ref 116), (1, .int x1), (2, .int 0), (3, .int x3)] [.int x1, .ref 134, .int x1, .ref 116] ig2 ag2 qg2 rg2 (by rfl) ?_
  refine ko_iald3 mi_k211.1 (n := 50) (c := 50) (ax := (0, 0, 0, 0, 0)) (mi_k211.2 _ _ (by rfl)) (by rfl) (ksG134 _ _ _ _) (hGg2.I.2.1 134) rfl (oz3 hp0.1) (oz1336 hp0.2) ?_
  have r4 : ((0 : Int) ≤ ((ag2 134).getD x1.toNatClampNeg 0).toInt) ∧ (((ag2 134).getD x1.toNatClampNeg 0).toInt ≤ 7) := hGg2.I.2.2.1 134 (x1.toNatClampNeg)
  have u5 : ((ag2 134).getD x1.toNatClampNeg 0).toInt = ((a 134).getD x1.toNatClampNeg 0).toInt := congrArg (fun z : List Int32 => (z.getD x1.toNatClampNeg 0).toInt) (kg2.fa 134 rfl)
  refine ko_eq (x1 := (62, [(0, .ref 116), (1, .int x1), (2, .int 0), (3, .int x3)], [.int 6, .int x1, .ref 116], (0, 0), ks ig2 ag2 qg2 rg2)) (by rw [(kj_eq (oz1486 hp1 u5) (by decide) : ((ag2 134).getD x1.toNatClampNeg 0) = 6)]) ?_
  refine ft_go mi_k211 1 63 [(0, .ref 116), (1, .int x1), (2, .int 0), (3, .int x3)] [.int x3, .int 6, .int x1, .ref 116] ig2 ag2 qg2 rg2 (by rfl) ?_
  refine ko_callI mi_k211.1 (pc := 63) (ls := [(0, .ref 116), (1, .int x1), (2, .int 0), (3, .int x3)]) (st := [.int x3, .int 6, .int x1, .ref 116]) (h := ks ig2 ag2 qg2 rg2) (i := (.invokevirtual 354, 3, 210, 0, 9, 0, 463)) (mi_k211.2 _ _ (by rfl)) (ft_invS mi_pq210 (by rfl)) (cy := mi_c210) mi_pq210 rfl (kc210_116_l16_K6 hGg2.I hGg2.R x1 x3 (oz1339 hp0.1 hp0.2) (oz1486 hp1 u5) (oz1539 fig2_7457.1 hp2.2 z3)) (by decide) ?_
  intro vg6 ig6 ag6 qg6 rg6 kg6 hg6
  have hGg6 := kG_call hGg2 kg6 (by decide +kernel)
  have z7 : (ig6 7457).toInt = ((ig2 7457).toInt + 2) := hg6
  have b8 : ((-2147483648 : Int) ≤ vg6.toInt) ∧ (vg6.toInt ≤ 2147483647) := kd_bd vg6
  refine ft_go mi_k211 2 68 [(0, .ref 116), (1, .int x1), (2, .int 0), (3, .int x3)] [.int (vg6 * 2)] ig6 ag6 qg6 rg6 (by rfl) ?_
  exact ft_ret mi_k211 (by rfl) (hP (vg6 * 2) _ _ _ _ hGg6 (oz1540 z3 z7))
def w211_116_l16_K6 : kW := ([7457], [135], [], [])
set_option maxRecDepth 100000 in
theorem kc211_116_l16_K6 {i : Nat → Int32} {a : Nat → List Int32} {q : Nat → List Int64} {r : Nat → Nat} (hI : kI i a q) (hr : kr r) (x1 : Int32) (x3 : Int32) (hp0 : ((0 : Int) ≤ x1.toInt) ∧ (x1.toInt ≤ 49)) (hp1 : ((a 134).getD x1.toNatClampNeg 0).toInt = 6) (hp2 : ((0 : Int) ≤ (i 7457).toInt) ∧ (((i 7457).toInt + 3) ≤ 900)) : km 9 211 [.ref 116, .int x1, .int 6, .int x3] (ks i a q r) (kVI w211_116_l16_K6 i a q r (fun v i1 a1 q1 r1 => (i1 7457).toInt = ((i 7457).toInt + 3))) := by
  have hG := kG_self w211_116_l16_K6 hI hr
  refine km_ofI (q := (mi_h211, mi_c211)) rfl (by decide) (Nat.le_of_ble_eq_true rfl) ?_
  intro P hP
  have r1 : ((0 : Int) ≤ ((a 134).getD x1.toNatClampNeg 0).toInt) ∧ (((a 134).getD x1.toNatClampNeg 0).toInt ≤ 7) := hG.I.2.2.1 134 (x1.toNatClampNeg)
  have fi_7457 : ((0 : Int) ≤ (i 7457).toInt) ∧ ((i 7457).toInt ≤ 1000) := hG.I.1 7457
  refine ft_go mi_k211 5 134 [(0, .ref 116), (1, .int x1), (2, .int 6), (3, .int x3)] [.int 6, .int x1, .ref 116] i a q r (by rfl) ?_
  refine ko_callPI mi_k211.1 (pc := 134) (ls := [(0, .ref 116), (1, .int x1), (2, .int 6), (3, .int x3)]) (st := [.int 6, .int x1, .ref 116]) (h := ks i a q r) (i := (.invokestatic 357, 3, 208, 0, 9, 0, 465)) (mi_k211.2 _ _ (by rfl)) (ft_invS mi_pq208 (by rfl)) (cy := mi_c208) mi_pq208 rfl (kc208_l06 hG.I hG.R ) (by decide) ?_
  intro vg2 hg2
  have z3 : vg2.toInt = 0 := hg2
  have evvg2 := kj_eq (oz236 z3) (by decide : (0 : Int32).toInt = 0)
  subst evvg2
  refine ft_go mi_k211 1 138 [(0, .ref 116), (1, .int x1), (2, .int 6), (3, .int x3)] [.int x3, .int 0, .int x1, .ref 116] i a q r (by rfl) ?_
  refine ko_callI mi_k211.1 (pc := 138) (ls := [(0, .ref 116), (1, .int x1), (2, .int 6), (3, .int x3)]) (st := [.int x3, .int 0, .int x1, .ref 116]) (h := ks i a q r) (i := (.invokevirtual 360, 3, 211, 0, 9, 0, 466)) (mi_k211.2 _ _ (by rfl)) (ft_invS mi_pq211 (by rfl)) (cy := mi_c211) mi_pq211 rfl (kc211_116_l10_K6 hG.I hG.R x1 x3 (oz1339 hp0.1 hp0.2) (oz1484 hp1) (oz1541 fi_7457.1 hp2.2)) (by decide) ?_
  intro vg4 ig4 ag4 qg4 rg4 kg4 hg4
  have hGg4 := kG_call hG kg4 (by decide +kernel)
  have z5 : (ig4 7457).toInt = ((i 7457).toInt + 3) := hg4
  exact ft_ret mi_k211 (by rfl) (hP vg4 _ _ _ _ hGg4 (oz1542 z5))
def w212_116_l10_K6 : kW := ([7457], [135], [], [])
set_option maxRecDepth 100000 in
theorem kc212_116_l10_K6 {i : Nat → Int32} {a : Nat → List Int32} {q : Nat → List Int64} {r : Nat → Nat} (hI : kI i a q) (hr : kr r) (x1 : Int32) (x3 : Int32) (hp0 : ((0 : Int) ≤ x1.toInt) ∧ (x1.toInt ≤ 49)) (hp1 : ((a 134).getD x1.toNatClampNeg 0).toInt = 6) (hp2 : ((0 : Int) ≤ (i 7457).toInt) ∧ (((i 7457).toInt + 1) ≤ 900)) : km 3 212 [.ref 116, .int x1, .int 0, .int x3] (ks i a q r) (kVI w212_116_l10_K6 i a q r (fun v i1 a1 q1 r1 => (i1 7457).toInt = ((i 7457).toInt + 1))) := by
  have hG := kG_self w212_116_l10_K6 hI hr
  refine km_ofI (q := (mi_h212, mi_c212)) rfl (by decide) (Nat.le_of_ble_eq_true rfl) ?_
  intro P hP
  have r1 : ((0 : Int) ≤ ((a 134).getD x1.toNatClampNeg 0).toInt) ∧ (((a 134).getD x1.toNatClampNeg 0).toInt ≤ 7) := hG.I.2.2.1 134 (x1.toNatClampNeg)
  have fi_7457 : ((0 : Int) ≤ (i 7457).toInt) ∧ ((i 7457).toInt ≤ 1000) := hG.I.1 7457
  refine ft_go mi_k212 4 39 [(0, .ref 116), (1, .int x1), (2, .int 0), (3, .int x3)] [.int 11, .ref 116] i a q r (by rfl) ?_
  refine ko_callN mi_k212.1 (pc := 39) (ls := [(0, .ref 116), (1, .int x1), (2, .int 0), (3, .int x3)]) (st := [.int 11, .ref 116]) (h := ks i a q r) (i := (.invokevirtual 351, 3, 209, 0, 9, 0, 464)) (mi_k212.2 _ _ (by rfl)) (ft_invS mi_pq209 (by rfl)) (cy := mi_c209) mi_pq209 rfl (kc209_116 hG.I hG.R 11 (oz1529 fi_7457.1 hp2.2)) (by decide) ?_
  intro ig2 ag2 qg2 rg2 kg2 hg2
  have hGg2 := kG_call hG kg2 (by decide +kernel)
  have z3 : (ig2 7457).toInt = ((i 7457).toInt + 1) := hg2
  refine ft_go mi_k212 3 45 [(0, .ref 116), (1, .int x1), (2, .int 0), (3, .int x3)] [.int (x3 ^^^ x1)] ig2 ag2 qg2 rg2 (by rfl) ?_
  exact ft_ret mi_k212 (by rfl) (hP (x3 ^^^ x1) _ _ _ _ hGg2 (oz1355 z3))
def w212_116_l16_K6 : kW := ([7457], [135], [], [])
set_option maxRecDepth 100000 in
theorem kc212_116_l16_K6 {i : Nat → Int32} {a : Nat → List Int32} {q : Nat → List Int64} {r : Nat → Nat} (hI : kI i a q) (hr : kr r) (x1 : Int32) (x3 : Int32) (hp0 : ((0 : Int) ≤ x1.toInt) ∧ (x1.toInt ≤ 49)) (hp1 : ((a 134).getD x1.toNatClampNeg 0).toInt = 6) (hp2 : ((0 : Int) ≤ (i 7457).toInt) ∧ (((i 7457).toInt + 1) ≤ 900)) : km 5 212 [.ref 116, .int x1, .int 6, .int x3] (ks i a q r) (kVI w212_116_l16_K6 i a q r (fun v i1 a1 q1 r1 => (i1 7457).toInt = ((i 7457).toInt + 1))) := by
  have hG := kG_self w212_116_l16_K6 hI hr
  refine km_ofI (q := (mi_h212, mi_c212)) rfl (by decide) (Nat.le_of_ble_eq_true rfl) ?_
  intro P hP
  have r1 : ((0 : Int) ≤ ((a 134).getD x1.toNatClampNeg 0).toInt) ∧ (((a 134).getD x1.toNatClampNeg 0).toInt ≤ 7) := hG.I.2.2.1 134 (x1.toNatClampNeg)
  have fi_7457 : ((0 : Int) ≤ (i 7457).toInt) ∧ ((i 7457).toInt ≤ 1000) := hG.I.1 7457
  refine ft_go mi_k212 5 96 [(0, .ref 116), (1, .int x1), (2, .int 6), (3, .int x3)] [.int 6, .int x1, .ref 116] i a q r (by rfl) ?_
  refine ko_callPI mi_k212.1 (pc := 96) (ls := [(0, .ref 116), (1, .int x1), (2, .int 6), (3, .int x3)]) (st := [.int 6, .int x1, .ref 116]) (h := ks i a q r) (i := (.invokestatic 357, 3, 208, 0, 9, 0, 465)) (mi_k212.2 _ _ (by rfl)) (ft_invS mi_pq208 (by rfl)) (cy := mi_c208) mi_pq208 rfl (kc208_l06 hG.I hG.R ) (by decide) ?_
  intro vg2 hg2
  have z3 : vg2.toInt = 0 := hg2
  have evvg2 := kj_eq (oz236 z3) (by decide : (0 : Int32).toInt = 0)
  subst evvg2
  refine ft_go mi_k212 1 100 [(0, .ref 116), (1, .int x1), (2, .int 6), (3, .int x3)] [.int x3, .int 0, .int x1, .ref 116] i a q r (by rfl) ?_
  refine ko_callI mi_k212.1 (pc := 100) (ls := [(0, .ref 116), (1, .int x1), (2, .int 6), (3, .int x3)]) (st := [.int x3, .int 0, .int x1, .ref 116]) (h := ks i a q r) (i := (.invokevirtual 363, 3, 212, 0, 9, 0, 467)) (mi_k212.2 _ _ (by rfl)) (ft_invS mi_pq212 (by rfl)) (cy := mi_c212) mi_pq212 rfl (kc212_116_l10_K6 hG.I hG.R x1 x3 (oz1339 hp0.1 hp0.2) (oz1484 hp1) (oz1354 fi_7457.1 hp2.2)) (by decide) ?_
  intro vg4 ig4 ag4 qg4 rg4 kg4 hg4
  have hGg4 := kG_call hG kg4 (by decide +kernel)
  have z5 : (ig4 7457).toInt = ((i 7457).toInt + 1) := hg4
  exact ft_ret mi_k212 (by rfl) (hP vg4 _ _ _ _ hGg4 (oz1355 z5))
def w213_116_l10_K6 : kW := ([7457], [135], [], [])
set_option maxRecDepth 100000 in
theorem kc213_116_l10_K6 {i : Nat → Int32} {a : Nat → List Int32} {q : Nat → List Int64} {r : Nat → Nat} (hI : kI i a q) (hr : kr r) (x1 : Int32) (x3 : Int32) (hp0 : ((0 : Int) ≤ x1.toInt) ∧ (x1.toInt ≤ 49)) (hp1 : ((a 134).getD x1.toNatClampNeg 0).toInt = 6) (hp2 : ((0 : Int) ≤ (i 7457).toInt) ∧ (((i 7457).toInt + 5) ≤ 900)) : km 11 213 [.ref 116, .int x1, .int 0, .int x3] (ks i a q r) (kVI w213_116_l10_K6 i a q r (fun v i1 a1 q1 r1 => (i1 7457).toInt = ((i 7457).toInt + 5))) := by
  have hG := kG_self w213_116_l10_K6 hI hr
  refine km_ofI (q := (mi_h213, mi_c213)) rfl (by decide) (Nat.le_of_ble_eq_true rfl) ?_
  intro P hP
  have r1 : ((0 : Int) ≤ ((a 134).getD x1.toNatClampNeg 0).toInt) ∧ (((a 134).getD x1.toNatClampNeg 0).toInt ≤ 7) := hG.I.2.2.1 134 (x1.toNatClampNeg)
  have fi_7457 : ((0 : Int) ≤ (i 7457).toInt) ∧ ((i 7457).toInt ≤ 1000) := hG.I.1 7457
  refine ft_go mi_k213 4 38 [(0, .ref 116), (1, .int x1), (2, .int 0), (3, .int x3)] [.int 2, .ref 116] i a q r (by rfl) ?_
  refine ko_callN mi_k213.1 (pc := 38) (ls := [(0, .ref 116), (1, .int x1), (2, .int 0), (3, .int x3)]) (st := [.int 2, .ref 116]) (h := ks i a q r) (i := (.invokevirtual 351, 3, 209, 0, 9, 0, 464)) (mi_k213.2 _ _ (by rfl)) (ft_invS mi_pq209 (by rfl)) (cy := mi_c209) mi_pq209 rfl (kc209_116 hG.I hG.R 2 (oz1537 fi_7457.1 hp2.2)) (by decide) ?_
  intro ig2 ag2 qg2 rg2 kg2 hg2
  have hGg2 := kG_call hG kg2 (by decide +kernel)
  have fig2_7457 : ((0 : Int) ≤ (ig2 7457).toInt) ∧ ((ig2 7457).toInt ≤ 1000) := hGg2.I.1 7457
  have z3 : (ig2 7457).toInt = ((i 7457).toInt + 1) := hg2
  refine ft_go mi_k213 5 48 [(0, .ref 116), (1, .int x1), (2, .int 0), (3, .int x3)] [.int x1, .ref 134, .int x1, .ref 116] ig2 ag2 qg2 rg2 (by rfl) ?_
  refine ko_iald3 mi_k213.1 (n := 50) (c := 50) (ax := (0, 0, 0, 0, 0)) (mi_k213.2 _ _ (by rfl)) (by rfl) (ksG134 _ _ _ _) (hGg2.I.2.1 134) rfl (oz3 hp0.1) (oz1336 hp0.2) ?_
  have r4 : ((0 : Int) ≤ ((ag2 134).getD x1.toNatClampNeg 0).toInt) ∧ (((ag2 134).getD x1.toNatClampNeg 0).toInt ≤ 7) := hGg2.I.2.2.1 134 (x1.toNatClampNeg)
  have u5 : ((ag2 134).getD x1.toNatClampNeg 0).toInt = ((a 134).getD x1.toNatClampNeg 0).toInt := congrArg (fun z : List Int32 => (z.getD x1.toNatClampNeg 0).toInt) (kg2.fa 134 rfl)
  refine ko_eq (x1 := (49, [(0, .ref 116), (1, .int x1), (2, .int 0), (3, .int x3)], [.int 6, .int x1, .ref 116], (0, 0), ks ig2 ag2 qg2 rg2)) (by rw [(kj_eq (oz1486 hp1 u5) (by decide) : ((ag2 134).getD x1.toNatClampNeg 0) = 6)]) ?_
  refine ft_go mi_k213 1 50 [(0, .ref 116), (1, .int x1), (2, .int 0), (3, .int x3)] [.int x3, .int 6, .int x1, .ref 116] ig2 ag2 qg2 rg2 (by rfl) ?_
  refine ko_callI mi_k213.1 (pc := 50) (ls := [(0, .ref 116), (1, .int x1), (2, .int 0), (3, .int x3)]) (st := [.int x3, .int 6, .int x1, .ref 116]) (h := ks ig2 ag2 qg2 rg2) (i := (.invokevirtual 360, 3, 211, 0, 9, 0, 466)) (mi_k213.2 _ _ (by rfl)) (ft_invS mi_pq211 (by rfl)) (cy := mi_c211) mi_pq211 rfl (kc211_116_l16_K6 hGg2.I hGg2.R x1 x3 (oz1339 hp0.1 hp0.2) (oz1486 hp1 u5) (oz1543 fig2_7457.1 hp2.2 z3)) (by decide) ?_
  intro vg6 ig6 ag6 qg6 rg6 kg6 hg6
  have hGg6 := kG_call hGg2 kg6 (by decide +kernel)
  have fig6_7457 : ((0 : Int) ≤ (ig6 7457).toInt) ∧ ((ig6 7457).toInt ≤ 1000) := hGg6.I.1 7457
  have z7 : (ig6 7457).toInt = ((ig2 7457).toInt + 3) := hg6
  refine ft_go mi_k213 7 64 [(4, .int vg6), (0, .ref 116), (1, .int x1), (2, .int 0), (3, .int x3)] [.int x1, .ref 134, .int x1, .ref 116, .int vg6] ig6 ag6 qg6 rg6 (by rfl) ?_
  refine ko_iald3 mi_k213.1 (n := 50) (c := 50) (ax := (0, 0, 0, 0, 0)) (mi_k213.2 _ _ (by rfl)) (by rfl) (ksG134 _ _ _ _) (hGg6.I.2.1 134) rfl (oz3 hp0.1) (oz1336 hp0.2) ?_
  have r8 : ((0 : Int) ≤ ((ag6 134).getD x1.toNatClampNeg 0).toInt) ∧ (((ag6 134).getD x1.toNatClampNeg 0).toInt ≤ 7) := hGg6.I.2.2.1 134 (x1.toNatClampNeg)
  have u9 : ((ag6 134).getD x1.toNatClampNeg 0).toInt = ((ag2 134).getD x1.toNatClampNeg 0).toInt := congrArg (fun z : List Int32 => (z.getD x1.toNatClampNeg 0).toInt) (kg6.fa 134 rfl)
  refine ko_eq (x1 := (65, [(4, .int vg6), (0, .ref 116), (1, .int x1), (2, .int 0), (3, .int x3)], [.int 6, .int x1, .ref 116, .int vg6], (0, 0), ks ig6 ag6 qg6 rg6)) (by rw [(kj_eq (oz1573 hp1 u5 u9) (by decide) : ((ag6 134).getD x1.toNatClampNeg 0) = 6)]) ?_
  refine ft_go mi_k213 1 66 [(4, .int vg6), (0, .ref 116), (1, .int x1), (2, .int 0), (3, .int x3)] [.int 1, .int 6, .int x1, .ref 116, .int vg6] ig6 ag6 qg6 rg6 (by rfl) ?_
  refine ko_callI mi_k213.1 (pc := 66) (ls := [(4, .int vg6), (0, .ref 116), (1, .int x1), (2, .int 0), (3, .int x3)]) (st := [.int 1, .int 6, .int x1, .ref 116, .int vg6]) (h := ks ig6 ag6 qg6 rg6) (i := (.invokevirtual 363, 3, 212, 0, 9, 0, 467)) (mi_k213.2 _ _ (by rfl)) (ft_invS mi_pq212 (by rfl)) (cy := mi_c212) mi_pq212 rfl (kc212_116_l16_K6 hGg6.I hGg6.R x1 1 (oz1339 hp0.1 hp0.2) (oz1573 hp1 u5 u9) (oz1545 fig6_7457.1 hp2.2 z3 z7)) (by decide) ?_
  intro vg10 ig10 ag10 qg10 rg10 kg10 hg10
  have hGg10 := kG_call hGg6 kg10 (by decide +kernel)
  have z11 : (ig10 7457).toInt = ((ig6 7457).toInt + 1) := hg10
  have b12 : ((-2147483648 : Int) ≤ vg6.toInt) ∧ (vg6.toInt ≤ 2147483647) := kd_bd vg6
  have b13 : ((-2147483648 : Int) ≤ vg10.toInt) ∧ (vg10.toInt ≤ 2147483647) := kd_bd vg10
  refine ft_go mi_k213 1 70 [(4, .int vg6), (0, .ref 116), (1, .int x1), (2, .int 0), (3, .int x3)] [.int (vg6 - vg10)] ig10 ag10 qg10 rg10 (by rfl) ?_
  exact ft_ret mi_k213 (by rfl) (hP (vg6 - vg10) _ _ _ _ hGg10 (oz1546 z11 z3 z7))
def w213_116_l16_K6 : kW := ([7457], [135], [], [])
set_option maxRecDepth 100000 in
theorem kc213_116_l16_K6 {i : Nat → Int32} {a : Nat → List Int32} {q : Nat → List Int64} {r : Nat → Nat} (hI : kI i a q) (hr : kr r) (x1 : Int32) (x3 : Int32) (hp0 : ((0 : Int) ≤ x1.toInt) ∧ (x1.toInt ≤ 49)) (hp1 : ((a 134).getD x1.toNatClampNeg 0).toInt = 6) (hp2 : ((0 : Int) ≤ (i 7457).toInt) ∧ (((i 7457).toInt + 5) ≤ 900)) : km 13 213 [.ref 116, .int x1, .int 6, .int x3] (ks i a q r) (kVI w213_116_l16_K6 i a q r (fun v i1 a1 q1 r1 => (i1 7457).toInt = ((i 7457).toInt + 5))) := by
  have hG := kG_self w213_116_l16_K6 hI hr
  refine km_ofI (q := (mi_h213, mi_c213)) rfl (by decide) (Nat.le_of_ble_eq_true rfl) ?_
  intro P hP
  have r1 : ((0 : Int) ≤ ((a 134).getD x1.toNatClampNeg 0).toInt) ∧ (((a 134).getD x1.toNatClampNeg 0).toInt ≤ 7) := hG.I.2.2.1 134 (x1.toNatClampNeg)
  have fi_7457 : ((0 : Int) ≤ (i 7457).toInt) ∧ ((i 7457).toInt ≤ 1000) := hG.I.1 7457
  refine ft_go mi_k213 5 106 [(0, .ref 116), (1, .int x1), (2, .int 6), (3, .int x3)] [.int 6, .int x1, .ref 116] i a q r (by rfl) ?_
  refine ko_callPI mi_k213.1 (pc := 106) (ls := [(0, .ref 116), (1, .int x1), (2, .int 6), (3, .int x3)]) (st := [.int 6, .int x1, .ref 116]) (h := ks i a q r) (i := (.invokestatic 357, 3, 208, 0, 9, 0, 465)) (mi_k213.2 _ _ (by rfl)) (ft_invS mi_pq208 (by rfl)) (cy := mi_c208) mi_pq208 rfl (kc208_l06 hG.I hG.R ) (by decide) ?_
  intro vg2 hg2
  have z3 : vg2.toInt = 0 := hg2
  have evvg2 := kj_eq (oz236 z3) (by decide : (0 : Int32).toInt = 0)
  subst evvg2
  refine ft_go mi_k213 1 110 [(0, .ref 116), (1, .int x1), (2, .int 6), (3, .int x3)] [.int x3, .int 0, .int x1, .ref 116] i a q r (by rfl) ?_
  refine ko_callI mi_k213.1 (pc := 110) (ls := [(0, .ref 116), (1, .int x1), (2, .int 6), (3, .int x3)]) (st := [.int x3, .int 0, .int x1, .ref 116]) (h := ks i a q r) (i := (.invokevirtual 366, 3, 213, 0, 9, 0, 468)) (mi_k213.2 _ _ (by rfl)) (ft_invS mi_pq213 (by rfl)) (cy := mi_c213) mi_pq213 rfl (kc213_116_l10_K6 hG.I hG.R x1 x3 (oz1339 hp0.1 hp0.2) (oz1484 hp1) (oz1547 fi_7457.1 hp2.2)) (by decide) ?_
  intro vg4 ig4 ag4 qg4 rg4 kg4 hg4
  have hGg4 := kG_call hG kg4 (by decide +kernel)
  have z5 : (ig4 7457).toInt = ((i 7457).toInt + 5) := hg4
  exact ft_ret mi_k213 (by rfl) (hP vg4 _ _ _ _ hGg4 (oz1548 z5))
set_option maxRecDepth 100000 in
theorem kc208_l07 {i : Nat → Int32} {a : Nat → List Int32} {q : Nat → List Int64} {r : Nat → Nat} (hI : kI i a q) (hr : kr r)  : km 1 208 [.int 7] (ks i a q r) (kPI (ks i a q r) (fun v => v.toInt = 4)) := by
  have hG := kG_self kW0 hI hr
  refine km_ofPI (q := (mi_h208, mi_c208)) rfl (by decide) (Nat.le_of_ble_eq_true rfl) ?_
  intro P hP
  refine ft_go mi_k208 3 43 [(0, .int 7)] [.int 4] i a q r (by rfl) ?_
  exact ft_ret mi_k208 (by rfl) (hP 4 (oz1446 kn4))
def w210_116_l10_K7 : kW := ([7457], [135], [], [])
set_option maxRecDepth 100000 in
theorem kc210_116_l10_K7 {i : Nat → Int32} {a : Nat → List Int32} {q : Nat → List Int64} {r : Nat → Nat} (hI : kI i a q) (hr : kr r) (x1 : Int32) (x3 : Int32) (hp0 : ((0 : Int) ≤ x1.toInt) ∧ (x1.toInt ≤ 49)) (hp1 : ((a 134).getD x1.toNatClampNeg 0).toInt = 7) (hp2 : ((0 : Int) ≤ (i 7457).toInt) ∧ (((i 7457).toInt + 1) ≤ 900)) : km 3 210 [.ref 116, .int x1, .int 0, .int x3] (ks i a q r) (kVI w210_116_l10_K7 i a q r (fun v i1 a1 q1 r1 => (i1 7457).toInt = ((i 7457).toInt + 1))) := by
  have hG := kG_self w210_116_l10_K7 hI hr
  refine km_ofI (q := (mi_h210, mi_c210)) rfl (by decide) (Nat.le_of_ble_eq_true rfl) ?_
  intro P hP
  have r1 : ((0 : Int) ≤ ((a 134).getD x1.toNatClampNeg 0).toInt) ∧ (((a 134).getD x1.toNatClampNeg 0).toInt ≤ 7) := hG.I.2.2.1 134 (x1.toNatClampNeg)
  have fi_7457 : ((0 : Int) ≤ (i 7457).toInt) ∧ ((i 7457).toInt ≤ 1000) := hG.I.1 7457
  refine ft_go mi_k210 4 38 [(0, .ref 116), (1, .int x1), (2, .int 0), (3, .int x3)] [.int 1, .ref 116] i a q r (by rfl) ?_
  refine ko_callN mi_k210.1 (pc := 38) (ls := [(0, .ref 116), (1, .int x1), (2, .int 0), (3, .int x3)]) (st := [.int 1, .ref 116]) (h := ks i a q r) (i := (.invokevirtual 351, 3, 209, 0, 9, 0, 464)) (mi_k210.2 _ _ (by rfl)) (ft_invS mi_pq209 (by rfl)) (cy := mi_c209) mi_pq209 rfl (kc209_116 hG.I hG.R 1 (oz1529 fi_7457.1 hp2.2)) (by decide) ?_
  intro ig2 ag2 qg2 rg2 kg2 hg2
  have hGg2 := kG_call hG kg2 (by decide +kernel)
  have z3 : (ig2 7457).toInt = ((i 7457).toInt + 1) := hg2
  have b4 : ((-2147483648 : Int) ≤ x3.toInt) ∧ (x3.toInt ≤ 2147483647) := kd_bd x3
  have b5 : ((-2147483648 : Int) ≤ x1.toInt) ∧ (x1.toInt ≤ 2147483647) := kd_bd x1
  refine ft_go mi_k210 3 44 [(0, .ref 116), (1, .int x1), (2, .int 0), (3, .int x3)] [.int (x3 + x1)] ig2 ag2 qg2 rg2 (by rfl) ?_
  exact ft_ret mi_k210 (by rfl) (hP (x3 + x1) _ _ _ _ hGg2 (oz1355 z3))
def w210_116_l11_K7 : kW := ([7457], [135], [], [])
set_option maxRecDepth 100000 in
theorem kc210_116_l11_K7 {i : Nat → Int32} {a : Nat → List Int32} {q : Nat → List Int64} {r : Nat → Nat} (hI : kI i a q) (hr : kr r) (x1 : Int32) (x3 : Int32) (hp0 : ((0 : Int) ≤ x1.toInt) ∧ (x1.toInt ≤ 49)) (hp1 : ((a 134).getD x1.toNatClampNeg 0).toInt = 7) (hp2 : ((0 : Int) ≤ (i 7457).toInt) ∧ (((i 7457).toInt + 2) ≤ 900)) : km 5 210 [.ref 116, .int x1, .int 1, .int x3] (ks i a q r) (kVI w210_116_l11_K7 i a q r (fun v i1 a1 q1 r1 => (i1 7457).toInt = ((i 7457).toInt + 2))) := by
  have hG := kG_self w210_116_l11_K7 hI hr
  refine km_ofI (q := (mi_h210, mi_c210)) rfl (by decide) (Nat.le_of_ble_eq_true rfl) ?_
  intro P hP
  have r1 : ((0 : Int) ≤ ((a 134).getD x1.toNatClampNeg 0).toInt) ∧ (((a 134).getD x1.toNatClampNeg 0).toInt ≤ 7) := hG.I.2.2.1 134 (x1.toNatClampNeg)
  have fi_7457 : ((0 : Int) ≤ (i 7457).toInt) ∧ ((i 7457).toInt ≤ 1000) := hG.I.1 7457
  refine ft_go mi_k210 4 48 [(0, .ref 116), (1, .int x1), (2, .int 1), (3, .int x3)] [.int 20, .ref 116] i a q r (by rfl) ?_
  refine ko_callN mi_k210.1 (pc := 48) (ls := [(0, .ref 116), (1, .int x1), (2, .int 1), (3, .int x3)]) (st := [.int 20, .ref 116]) (h := ks i a q r) (i := (.invokevirtual 351, 3, 209, 0, 9, 0, 464)) (mi_k210.2 _ _ (by rfl)) (ft_invS mi_pq209 (by rfl)) (cy := mi_c209) mi_pq209 rfl (kc209_116 hG.I hG.R 20 (oz1528 fi_7457.1 hp2.2)) (by decide) ?_
  intro ig2 ag2 qg2 rg2 kg2 hg2
  have hGg2 := kG_call hG kg2 (by decide +kernel)
  have fig2_7457 : ((0 : Int) ≤ (ig2 7457).toInt) ∧ ((ig2 7457).toInt ≤ 1000) := hGg2.I.1 7457
  have z3 : (ig2 7457).toInt = ((i 7457).toInt + 1) := hg2
  refine ft_go mi_k210 4 55 [(0, .ref 116), (1, .int x1), (2, .int 1), (3, .int x3)] [.int x3, .int 0, .int x1, .ref 116] ig2 ag2 qg2 rg2 (by rfl) ?_
  have r4 : ((0 : Int) ≤ ((ag2 134).getD x1.toNatClampNeg 0).toInt) ∧ (((ag2 134).getD x1.toNatClampNeg 0).toInt ≤ 7) := hGg2.I.2.2.1 134 (x1.toNatClampNeg)
  have u5 : ((ag2 134).getD x1.toNatClampNeg 0).toInt = ((a 134).getD x1.toNatClampNeg 0).toInt := congrArg (fun z : List Int32 => (z.getD x1.toNatClampNeg 0).toInt) (kg2.fa 134 rfl)
  refine ko_callI mi_k210.1 (pc := 55) (ls := [(0, .ref 116), (1, .int x1), (2, .int 1), (3, .int x3)]) (st := [.int x3, .int 0, .int x1, .ref 116]) (h := ks ig2 ag2 qg2 rg2) (i := (.invokevirtual 354, 3, 210, 0, 9, 0, 463)) (mi_k210.2 _ _ (by rfl)) (ft_invS mi_pq210 (by rfl)) (cy := mi_c210) mi_pq210 rfl (kc210_116_l10_K7 hGg2.I hGg2.R x1 x3 (oz1339 hp0.1 hp0.2) (oz1496 hp1 r4.2 u5) (oz1530 fig2_7457.1 hp2.2 z3)) (by decide) ?_
  intro vg6 ig6 ag6 qg6 rg6 kg6 hg6
  have hGg6 := kG_call hGg2 kg6 (by decide +kernel)
  have z7 : (ig6 7457).toInt = ((ig2 7457).toInt + 1) := hg6
  have b8 : ((-2147483648 : Int) ≤ vg6.toInt) ∧ (vg6.toInt ≤ 2147483647) := kd_bd vg6
  refine ft_go mi_k210 2 60 [(0, .ref 116), (1, .int x1), (2, .int 1), (3, .int x3)] [.int (vg6 + 3)] ig6 ag6 qg6 rg6 (by rfl) ?_
  exact ft_ret mi_k210 (by rfl) (hP (vg6 + 3) _ _ _ _ hGg6 (oz1531 z3 z7))
def w210_116_l14_K7 : kW := ([7457], [135], [], [])
set_option maxRecDepth 100000 in
theorem kc210_116_l14_K7 {i : Nat → Int32} {a : Nat → List Int32} {q : Nat → List Int64} {r : Nat → Nat} (hI : kI i a q) (hr : kr r) (x1 : Int32) (x3 : Int32) (hp0 : ((0 : Int) ≤ x1.toInt) ∧ (x1.toInt ≤ 49)) (hp1 : ((a 134).getD x1.toNatClampNeg 0).toInt = 7) (hp2 : ((0 : Int) ≤ (i 7457).toInt) ∧ (((i 7457).toInt + 2) ≤ 900)) : km 7 210 [.ref 116, .int x1, .int 4, .int x3] (ks i a q r) (kVI w210_116_l14_K7 i a q r (fun v i1 a1 q1 r1 => (i1 7457).toInt = ((i 7457).toInt + 2))) := by
  have hG := kG_self w210_116_l14_K7 hI hr
  refine km_ofI (q := (mi_h210, mi_c210)) rfl (by decide) (Nat.le_of_ble_eq_true rfl) ?_
  intro P hP
  have r1 : ((0 : Int) ≤ ((a 134).getD x1.toNatClampNeg 0).toInt) ∧ (((a 134).getD x1.toNatClampNeg 0).toInt ≤ 7) := hG.I.2.2.1 134 (x1.toNatClampNeg)
  have fi_7457 : ((0 : Int) ≤ (i 7457).toInt) ∧ ((i 7457).toInt ≤ 1000) := hG.I.1 7457
  refine ft_go mi_k210 5 80 [(0, .ref 116), (1, .int x1), (2, .int 4), (3, .int x3)] [.int 4, .int x1, .ref 116] i a q r (by rfl) ?_
  refine ko_callPI mi_k210.1 (pc := 80) (ls := [(0, .ref 116), (1, .int x1), (2, .int 4), (3, .int x3)]) (st := [.int 4, .int x1, .ref 116]) (h := ks i a q r) (i := (.invokestatic 357, 3, 208, 0, 9, 0, 465)) (mi_k210.2 _ _ (by rfl)) (ft_invS mi_pq208 (by rfl)) (cy := mi_c208) mi_pq208 rfl (kc208_l04 hG.I hG.R ) (by decide) ?_
  intro vg2 hg2
  have z3 : vg2.toInt = 1 := hg2
  have evvg2 := kj_eq (oz1381 z3) (by decide : (1 : Int32).toInt = 1)
  subst evvg2
  refine ft_go mi_k210 1 84 [(0, .ref 116), (1, .int x1), (2, .int 4), (3, .int x3)] [.int x3, .int 1, .int x1, .ref 116] i a q r (by rfl) ?_
  refine ko_callI mi_k210.1 (pc := 84) (ls := [(0, .ref 116), (1, .int x1), (2, .int 4), (3, .int x3)]) (st := [.int x3, .int 1, .int x1, .ref 116]) (h := ks i a q r) (i := (.invokevirtual 354, 3, 210, 0, 9, 0, 463)) (mi_k210.2 _ _ (by rfl)) (ft_invS mi_pq210 (by rfl)) (cy := mi_c210) mi_pq210 rfl (kc210_116_l11_K7 hG.I hG.R x1 x3 (oz1339 hp0.1 hp0.2) (oz1495 hp1 r1.2) (oz1386 fi_7457.1 hp2.2)) (by decide) ?_
  intro vg4 ig4 ag4 qg4 rg4 kg4 hg4
  have hGg4 := kG_call hG kg4 (by decide +kernel)
  have z5 : (ig4 7457).toInt = ((i 7457).toInt + 2) := hg4
  exact ft_ret mi_k210 (by rfl) (hP vg4 _ _ _ _ hGg4 (oz1387 z5))
def w210_116_l17_K7 : kW := ([7457], [135], [], [])
set_option maxRecDepth 100000 in
theorem kc210_116_l17_K7 {i : Nat → Int32} {a : Nat → List Int32} {q : Nat → List Int64} {r : Nat → Nat} (hI : kI i a q) (hr : kr r) (x1 : Int32) (x3 : Int32) (hp0 : ((0 : Int) ≤ x1.toInt) ∧ (x1.toInt ≤ 49)) (hp1 : ((a 134).getD x1.toNatClampNeg 0).toInt = 7) (hp2 : ((0 : Int) ≤ (i 7457).toInt) ∧ (((i 7457).toInt + 2) ≤ 900)) : km 9 210 [.ref 116, .int x1, .int 7, .int x3] (ks i a q r) (kVI w210_116_l17_K7 i a q r (fun v i1 a1 q1 r1 => (i1 7457).toInt = ((i 7457).toInt + 2))) := by
  have hG := kG_self w210_116_l17_K7 hI hr
  refine km_ofI (q := (mi_h210, mi_c210)) rfl (by decide) (Nat.le_of_ble_eq_true rfl) ?_
  intro P hP
  have r1 : ((0 : Int) ≤ ((a 134).getD x1.toNatClampNeg 0).toInt) ∧ (((a 134).getD x1.toNatClampNeg 0).toInt ≤ 7) := hG.I.2.2.1 134 (x1.toNatClampNeg)
  have fi_7457 : ((0 : Int) ≤ (i 7457).toInt) ∧ ((i 7457).toInt ≤ 1000) := hG.I.1 7457
  refine ft_go mi_k210 5 80 [(0, .ref 116), (1, .int x1), (2, .int 7), (3, .int x3)] [.int 7, .int x1, .ref 116] i a q r (by rfl) ?_
  refine ko_callPI mi_k210.1 (pc := 80) (ls := [(0, .ref 116), (1, .int x1), (2, .int 7), (3, .int x3)]) (st := [.int 7, .int x1, .ref 116]) (h := ks i a q r) (i := (.invokestatic 357, 3, 208, 0, 9, 0, 465)) (mi_k210.2 _ _ (by rfl)) (ft_invS mi_pq208 (by rfl)) (cy := mi_c208) mi_pq208 rfl (kc208_l07 hG.I hG.R ) (by decide) ?_
  intro vg2 hg2
  have z3 : vg2.toInt = 4 := hg2
  have evvg2 := kj_eq (oz1446 z3) (by decide : (4 : Int32).toInt = 4)
  subst evvg2
  refine ft_go mi_k210 1 84 [(0, .ref 116), (1, .int x1), (2, .int 7), (3, .int x3)] [.int x3, .int 4, .int x1, .ref 116] i a q r (by rfl) ?_
  refine ko_callI mi_k210.1 (pc := 84) (ls := [(0, .ref 116), (1, .int x1), (2, .int 7), (3, .int x3)]) (st := [.int x3, .int 4, .int x1, .ref 116]) (h := ks i a q r) (i := (.invokevirtual 354, 3, 210, 0, 9, 0, 463)) (mi_k210.2 _ _ (by rfl)) (ft_invS mi_pq210 (by rfl)) (cy := mi_c210) mi_pq210 rfl (kc210_116_l14_K7 hG.I hG.R x1 x3 (oz1339 hp0.1 hp0.2) (oz1495 hp1 r1.2) (oz1386 fi_7457.1 hp2.2)) (by decide) ?_
  intro vg4 ig4 ag4 qg4 rg4 kg4 hg4
  have hGg4 := kG_call hG kg4 (by decide +kernel)
  have z5 : (ig4 7457).toInt = ((i 7457).toInt + 2) := hg4
  exact ft_ret mi_k210 (by rfl) (hP vg4 _ _ _ _ hGg4 (oz1387 z5))
def w211_116_l10_K7 : kW := ([7457], [135], [], [])
set_option maxRecDepth 100000 in
theorem kc211_116_l10_K7 {i : Nat → Int32} {a : Nat → List Int32} {q : Nat → List Int64} {r : Nat → Nat} (hI : kI i a q) (hr : kr r) (x1 : Int32) (x3 : Int32) (hp0 : ((0 : Int) ≤ x1.toInt) ∧ (x1.toInt ≤ 49)) (hp1 : ((a 134).getD x1.toNatClampNeg 0).toInt = 7) (hp2 : ((0 : Int) ≤ (i 7457).toInt) ∧ (((i 7457).toInt + 3) ≤ 900)) : km 11 211 [.ref 116, .int x1, .int 0, .int x3] (ks i a q r) (kVI w211_116_l10_K7 i a q r (fun v i1 a1 q1 r1 => (i1 7457).toInt = ((i 7457).toInt + 3))) := by
  have hG := kG_self w211_116_l10_K7 hI hr
  refine km_ofI (q := (mi_h211, mi_c211)) rfl (by decide) (Nat.le_of_ble_eq_true rfl) ?_
  intro P hP
  have r1 : ((0 : Int) ≤ ((a 134).getD x1.toNatClampNeg 0).toInt) ∧ (((a 134).getD x1.toNatClampNeg 0).toInt ≤ 7) := hG.I.2.2.1 134 (x1.toNatClampNeg)
  have fi_7457 : ((0 : Int) ≤ (i 7457).toInt) ∧ ((i 7457).toInt ≤ 1000) := hG.I.1 7457
  refine ft_go mi_k211 4 51 [(0, .ref 116), (1, .int x1), (2, .int 0), (3, .int x3)] [.int 10, .ref 116] i a q r (by rfl) ?_
  refine ko_callN mi_k211.1 (pc := 51) (ls := [(0, .ref 116), (1, .int x1), (2, .int 0), (3, .int x3)]) (st := [.int 10, .ref 116]) (h := ks i a q r) (i := (.invokevirtual 351, 3, 209, 0, 9, 0, 464)) (mi_k211.2 _ _ (by rfl)) (ft_invS mi_pq209 (by rfl)) (cy := mi_c209) mi_pq209 rfl (kc209_116 hG.I hG.R 10 (oz1538 fi_7457.1 hp2.2)) (by decide) ?_
  intro ig2 ag2 qg2 rg2 kg2 hg2
  have hGg2 := kG_call hG kg2 (by decide +kernel)
  have fig2_7457 : ((0 : Int) ≤ (ig2 7457).toInt) ∧ ((ig2 7457).toInt ≤ 1000) := hGg2.I.1 7457
  have z3 : (ig2 7457).toInt = ((i 7457).toInt + 1) := hg2
  refine ft_go mi_k211 5 61 [(0, .ref 116), (1, .int x1), (2, .int 0), (3, .int x3)] [.int x1, .ref 134, .int x1, .ref 116] ig2 ag2 qg2 rg2 (by rfl) ?_
  refine ko_iald3 mi_k211.1 (n := 50) (c := 50) (ax := (0, 0, 0, 0, 0)) (mi_k211.2 _ _ (by rfl)) (by rfl) (ksG134 _ _ _ _) (hGg2.I.2.1 134) rfl (oz3 hp0.1) (oz1336 hp0.2) ?_
  have r4 : ((0 : Int) ≤ ((ag2 134).getD x1.toNatClampNeg 0).toInt) ∧ (((ag2 134).getD x1.toNatClampNeg 0).toInt ≤ 7) := hGg2.I.2.2.1 134 (x1.toNatClampNeg)
  have u5 : ((ag2 134).getD x1.toNatClampNeg 0).toInt = ((a 134).getD x1.toNatClampNeg 0).toInt := congrArg (fun z : List Int32 => (z.getD x1.toNatClampNeg 0).toInt) (kg2.fa 134 rfl)
  refine ko_eq (x1 := (62, [(0, .ref 116), (1, .int x1), (2, .int 0), (3, .int x3)], [.int 7, .int x1, .ref 116], (0, 0), ks ig2 ag2 qg2 rg2)) (by rw [(kj_eq (oz1496 hp1 r4.2 u5) (by decide) : ((ag2 134).getD x1.toNatClampNeg 0) = 7)]) ?_
  refine ft_go mi_k211 1 63 [(0, .ref 116), (1, .int x1), (2, .int 0), (3, .int x3)] [.int x3, .int 7, .int x1, .ref 116] ig2 ag2 qg2 rg2 (by rfl) ?_
  refine ko_callI mi_k211.1 (pc := 63) (ls := [(0, .ref 116), (1, .int x1), (2, .int 0), (3, .int x3)]) (st := [.int x3, .int 7, .int x1, .ref 116]) (h := ks ig2 ag2 qg2 rg2) (i := (.invokevirtual 354, 3, 210, 0, 9, 0, 463)) (mi_k211.2 _ _ (by rfl)) (ft_invS mi_pq210 (by rfl)) (cy := mi_c210) mi_pq210 rfl (kc210_116_l17_K7 hGg2.I hGg2.R x1 x3 (oz1339 hp0.1 hp0.2) (oz1496 hp1 r4.2 u5) (oz1539 fig2_7457.1 hp2.2 z3)) (by decide) ?_
  intro vg6 ig6 ag6 qg6 rg6 kg6 hg6
  have hGg6 := kG_call hGg2 kg6 (by decide +kernel)
  have z7 : (ig6 7457).toInt = ((ig2 7457).toInt + 2) := hg6
  have b8 : ((-2147483648 : Int) ≤ vg6.toInt) ∧ (vg6.toInt ≤ 2147483647) := kd_bd vg6
  refine ft_go mi_k211 2 68 [(0, .ref 116), (1, .int x1), (2, .int 0), (3, .int x3)] [.int (vg6 * 2)] ig6 ag6 qg6 rg6 (by rfl) ?_
  exact ft_ret mi_k211 (by rfl) (hP (vg6 * 2) _ _ _ _ hGg6 (oz1540 z3 z7))
def w211_116_l11_K7 : kW := ([7457], [135], [], [])
set_option maxRecDepth 100000 in
theorem kc211_116_l11_K7 {i : Nat → Int32} {a : Nat → List Int32} {q : Nat → List Int64} {r : Nat → Nat} (hI : kI i a q) (hr : kr r) (x1 : Int32) (x3 : Int32) (hp0 : ((0 : Int) ≤ x1.toInt) ∧ (x1.toInt ≤ 49)) (hp1 : ((a 134).getD x1.toNatClampNeg 0).toInt = 7) (hp2 : ((0 : Int) ≤ (i 7457).toInt) ∧ (((i 7457).toInt + 3) ≤ 900)) : km 13 211 [.ref 116, .int x1, .int 1, .int x3] (ks i a q r) (kVI w211_116_l11_K7 i a q r (fun v i1 a1 q1 r1 => (i1 7457).toInt = ((i 7457).toInt + 3))) := by
  have hG := kG_self w211_116_l11_K7 hI hr
  refine km_ofI (q := (mi_h211, mi_c211)) rfl (by decide) (Nat.le_of_ble_eq_true rfl) ?_
  intro P hP
  have r1 : ((0 : Int) ≤ ((a 134).getD x1.toNatClampNeg 0).toInt) ∧ (((a 134).getD x1.toNatClampNeg 0).toInt ≤ 7) := hG.I.2.2.1 134 (x1.toNatClampNeg)
  have fi_7457 : ((0 : Int) ≤ (i 7457).toInt) ∧ ((i 7457).toInt ≤ 1000) := hG.I.1 7457
  refine ft_go mi_k211 5 134 [(0, .ref 116), (1, .int x1), (2, .int 1), (3, .int x3)] [.int 1, .int x1, .ref 116] i a q r (by rfl) ?_
  refine ko_callPI mi_k211.1 (pc := 134) (ls := [(0, .ref 116), (1, .int x1), (2, .int 1), (3, .int x3)]) (st := [.int 1, .int x1, .ref 116]) (h := ks i a q r) (i := (.invokestatic 357, 3, 208, 0, 9, 0, 465)) (mi_k211.2 _ _ (by rfl)) (ft_invS mi_pq208 (by rfl)) (cy := mi_c208) mi_pq208 rfl (kc208_l01 hG.I hG.R ) (by decide) ?_
  intro vg2 hg2
  have z3 : vg2.toInt = 0 := hg2
  have evvg2 := kj_eq (oz236 z3) (by decide : (0 : Int32).toInt = 0)
  subst evvg2
  refine ft_go mi_k211 1 138 [(0, .ref 116), (1, .int x1), (2, .int 1), (3, .int x3)] [.int x3, .int 0, .int x1, .ref 116] i a q r (by rfl) ?_
  refine ko_callI mi_k211.1 (pc := 138) (ls := [(0, .ref 116), (1, .int x1), (2, .int 1), (3, .int x3)]) (st := [.int x3, .int 0, .int x1, .ref 116]) (h := ks i a q r) (i := (.invokevirtual 360, 3, 211, 0, 9, 0, 466)) (mi_k211.2 _ _ (by rfl)) (ft_invS mi_pq211 (by rfl)) (cy := mi_c211) mi_pq211 rfl (kc211_116_l10_K7 hG.I hG.R x1 x3 (oz1339 hp0.1 hp0.2) (oz1495 hp1 r1.2) (oz1541 fi_7457.1 hp2.2)) (by decide) ?_
  intro vg4 ig4 ag4 qg4 rg4 kg4 hg4
  have hGg4 := kG_call hG kg4 (by decide +kernel)
  have z5 : (ig4 7457).toInt = ((i 7457).toInt + 3) := hg4
  exact ft_ret mi_k211 (by rfl) (hP vg4 _ _ _ _ hGg4 (oz1542 z5))
def w211_116_l14_K7 : kW := ([7457], [135], [], [])
set_option maxRecDepth 100000 in
theorem kc211_116_l14_K7 {i : Nat → Int32} {a : Nat → List Int32} {q : Nat → List Int64} {r : Nat → Nat} (hI : kI i a q) (hr : kr r) (x1 : Int32) (x3 : Int32) (hp0 : ((0 : Int) ≤ x1.toInt) ∧ (x1.toInt ≤ 49)) (hp1 : ((a 134).getD x1.toNatClampNeg 0).toInt = 7) (hp2 : ((0 : Int) ≤ (i 7457).toInt) ∧ (((i 7457).toInt + 3) ≤ 900)) : km 15 211 [.ref 116, .int x1, .int 4, .int x3] (ks i a q r) (kVI w211_116_l14_K7 i a q r (fun v i1 a1 q1 r1 => (i1 7457).toInt = ((i 7457).toInt + 3))) := by
  have hG := kG_self w211_116_l14_K7 hI hr
  refine km_ofI (q := (mi_h211, mi_c211)) rfl (by decide) (Nat.le_of_ble_eq_true rfl) ?_
  intro P hP
  have r1 : ((0 : Int) ≤ ((a 134).getD x1.toNatClampNeg 0).toInt) ∧ (((a 134).getD x1.toNatClampNeg 0).toInt ≤ 7) := hG.I.2.2.1 134 (x1.toNatClampNeg)
  have fi_7457 : ((0 : Int) ≤ (i 7457).toInt) ∧ ((i 7457).toInt ≤ 1000) := hG.I.1 7457
  refine ft_go mi_k211 5 134 [(0, .ref 116), (1, .int x1), (2, .int 4), (3, .int x3)] [.int 4, .int x1, .ref 116] i a q r (by rfl) ?_
  refine ko_callPI mi_k211.1 (pc := 134) (ls := [(0, .ref 116), (1, .int x1), (2, .int 4), (3, .int x3)]) (st := [.int 4, .int x1, .ref 116]) (h := ks i a q r) (i := (.invokestatic 357, 3, 208, 0, 9, 0, 465)) (mi_k211.2 _ _ (by rfl)) (ft_invS mi_pq208 (by rfl)) (cy := mi_c208) mi_pq208 rfl (kc208_l04 hG.I hG.R ) (by decide) ?_
  intro vg2 hg2
  have z3 : vg2.toInt = 1 := hg2
  have evvg2 := kj_eq (oz1381 z3) (by decide : (1 : Int32).toInt = 1)
  subst evvg2
  refine ft_go mi_k211 1 138 [(0, .ref 116), (1, .int x1), (2, .int 4), (3, .int x3)] [.int x3, .int 1, .int x1, .ref 116] i a q r (by rfl) ?_
  refine ko_callI mi_k211.1 (pc := 138) (ls := [(0, .ref 116), (1, .int x1), (2, .int 4), (3, .int x3)]) (st := [.int x3, .int 1, .int x1, .ref 116]) (h := ks i a q r) (i := (.invokevirtual 360, 3, 211, 0, 9, 0, 466)) (mi_k211.2 _ _ (by rfl)) (ft_invS mi_pq211 (by rfl)) (cy := mi_c211) mi_pq211 rfl (kc211_116_l11_K7 hG.I hG.R x1 x3 (oz1339 hp0.1 hp0.2) (oz1495 hp1 r1.2) (oz1541 fi_7457.1 hp2.2)) (by decide) ?_
  intro vg4 ig4 ag4 qg4 rg4 kg4 hg4
  have hGg4 := kG_call hG kg4 (by decide +kernel)
  have z5 : (ig4 7457).toInt = ((i 7457).toInt + 3) := hg4
  exact ft_ret mi_k211 (by rfl) (hP vg4 _ _ _ _ hGg4 (oz1542 z5))
def w212_116_l10_K7 : kW := ([7457], [135], [], [])
set_option maxRecDepth 100000 in
theorem kc212_116_l10_K7 {i : Nat → Int32} {a : Nat → List Int32} {q : Nat → List Int64} {r : Nat → Nat} (hI : kI i a q) (hr : kr r) (x1 : Int32) (x3 : Int32) (hp0 : ((0 : Int) ≤ x1.toInt) ∧ (x1.toInt ≤ 49)) (hp1 : ((a 134).getD x1.toNatClampNeg 0).toInt = 7) (hp2 : ((0 : Int) ≤ (i 7457).toInt) ∧ (((i 7457).toInt + 1) ≤ 900)) : km 3 212 [.ref 116, .int x1, .int 0, .int x3] (ks i a q r) (kVI w212_116_l10_K7 i a q r (fun v i1 a1 q1 r1 => (i1 7457).toInt = ((i 7457).toInt + 1))) := by
  have hG := kG_self w212_116_l10_K7 hI hr
  refine km_ofI (q := (mi_h212, mi_c212)) rfl (by decide) (Nat.le_of_ble_eq_true rfl) ?_
  intro P hP
  have r1 : ((0 : Int) ≤ ((a 134).getD x1.toNatClampNeg 0).toInt) ∧ (((a 134).getD x1.toNatClampNeg 0).toInt ≤ 7) := hG.I.2.2.1 134 (x1.toNatClampNeg)
  have fi_7457 : ((0 : Int) ≤ (i 7457).toInt) ∧ ((i 7457).toInt ≤ 1000) := hG.I.1 7457
  refine ft_go mi_k212 4 39 [(0, .ref 116), (1, .int x1), (2, .int 0), (3, .int x3)] [.int 11, .ref 116] i a q r (by rfl) ?_
  refine ko_callN mi_k212.1 (pc := 39) (ls := [(0, .ref 116), (1, .int x1), (2, .int 0), (3, .int x3)]) (st := [.int 11, .ref 116]) (h := ks i a q r) (i := (.invokevirtual 351, 3, 209, 0, 9, 0, 464)) (mi_k212.2 _ _ (by rfl)) (ft_invS mi_pq209 (by rfl)) (cy := mi_c209) mi_pq209 rfl (kc209_116 hG.I hG.R 11 (oz1529 fi_7457.1 hp2.2)) (by decide) ?_
  intro ig2 ag2 qg2 rg2 kg2 hg2
  have hGg2 := kG_call hG kg2 (by decide +kernel)
  have z3 : (ig2 7457).toInt = ((i 7457).toInt + 1) := hg2
  refine ft_go mi_k212 3 45 [(0, .ref 116), (1, .int x1), (2, .int 0), (3, .int x3)] [.int (x3 ^^^ x1)] ig2 ag2 qg2 rg2 (by rfl) ?_
  exact ft_ret mi_k212 (by rfl) (hP (x3 ^^^ x1) _ _ _ _ hGg2 (oz1355 z3))
def w212_116_l11_K7 : kW := ([7457], [135], [], [])
set_option maxRecDepth 100000 in
theorem kc212_116_l11_K7 {i : Nat → Int32} {a : Nat → List Int32} {q : Nat → List Int64} {r : Nat → Nat} (hI : kI i a q) (hr : kr r) (x1 : Int32) (x3 : Int32) (hp0 : ((0 : Int) ≤ x1.toInt) ∧ (x1.toInt ≤ 49)) (hp1 : ((a 134).getD x1.toNatClampNeg 0).toInt = 7) (hp2 : ((0 : Int) ≤ (i 7457).toInt) ∧ (((i 7457).toInt + 1) ≤ 900)) : km 5 212 [.ref 116, .int x1, .int 1, .int x3] (ks i a q r) (kVI w212_116_l11_K7 i a q r (fun v i1 a1 q1 r1 => (i1 7457).toInt = ((i 7457).toInt + 1))) := by
  have hG := kG_self w212_116_l11_K7 hI hr
  refine km_ofI (q := (mi_h212, mi_c212)) rfl (by decide) (Nat.le_of_ble_eq_true rfl) ?_
  intro P hP
  have r1 : ((0 : Int) ≤ ((a 134).getD x1.toNatClampNeg 0).toInt) ∧ (((a 134).getD x1.toNatClampNeg 0).toInt ≤ 7) := hG.I.2.2.1 134 (x1.toNatClampNeg)
  have fi_7457 : ((0 : Int) ≤ (i 7457).toInt) ∧ ((i 7457).toInt ≤ 1000) := hG.I.1 7457
  refine ft_go mi_k212 5 96 [(0, .ref 116), (1, .int x1), (2, .int 1), (3, .int x3)] [.int 1, .int x1, .ref 116] i a q r (by rfl) ?_
  refine ko_callPI mi_k212.1 (pc := 96) (ls := [(0, .ref 116), (1, .int x1), (2, .int 1), (3, .int x3)]) (st := [.int 1, .int x1, .ref 116]) (h := ks i a q r) (i := (.invokestatic 357, 3, 208, 0, 9, 0, 465)) (mi_k212.2 _ _ (by rfl)) (ft_invS mi_pq208 (by rfl)) (cy := mi_c208) mi_pq208 rfl (kc208_l01 hG.I hG.R ) (by decide) ?_
  intro vg2 hg2
  have z3 : vg2.toInt = 0 := hg2
  have evvg2 := kj_eq (oz236 z3) (by decide : (0 : Int32).toInt = 0)
  subst evvg2
  refine ft_go mi_k212 1 100 [(0, .ref 116), (1, .int x1), (2, .int 1), (3, .int x3)] [.int x3, .int 0, .int x1, .ref 116] i a q r (by rfl) ?_
  refine ko_callI mi_k212.1 (pc := 100) (ls := [(0, .ref 116), (1, .int x1), (2, .int 1), (3, .int x3)]) (st := [.int x3, .int 0, .int x1, .ref 116]) (h := ks i a q r) (i := (.invokevirtual 363, 3, 212, 0, 9, 0, 467)) (mi_k212.2 _ _ (by rfl)) (ft_invS mi_pq212 (by rfl)) (cy := mi_c212) mi_pq212 rfl (kc212_116_l10_K7 hG.I hG.R x1 x3 (oz1339 hp0.1 hp0.2) (oz1495 hp1 r1.2) (oz1354 fi_7457.1 hp2.2)) (by decide) ?_
  intro vg4 ig4 ag4 qg4 rg4 kg4 hg4
  have hGg4 := kG_call hG kg4 (by decide +kernel)
  have z5 : (ig4 7457).toInt = ((i 7457).toInt + 1) := hg4
  exact ft_ret mi_k212 (by rfl) (hP vg4 _ _ _ _ hGg4 (oz1355 z5))
def w212_116_l14_K7 : kW := ([7457], [135], [], [])
set_option maxRecDepth 100000 in
theorem kc212_116_l14_K7 {i : Nat → Int32} {a : Nat → List Int32} {q : Nat → List Int64} {r : Nat → Nat} (hI : kI i a q) (hr : kr r) (x1 : Int32) (x3 : Int32) (hp0 : ((0 : Int) ≤ x1.toInt) ∧ (x1.toInt ≤ 49)) (hp1 : ((a 134).getD x1.toNatClampNeg 0).toInt = 7) (hp2 : ((0 : Int) ≤ (i 7457).toInt) ∧ (((i 7457).toInt + 4) ≤ 900)) : km 11 212 [.ref 116, .int x1, .int 4, .int x3] (ks i a q r) (kVI w212_116_l14_K7 i a q r (fun v i1 a1 q1 r1 => (i1 7457).toInt = ((i 7457).toInt + 4))) := by
  have hG := kG_self w212_116_l14_K7 hI hr
  refine km_ofI (q := (mi_h212, mi_c212)) rfl (by decide) (Nat.le_of_ble_eq_true rfl) ?_
  intro P hP
  have r1 : ((0 : Int) ≤ ((a 134).getD x1.toNatClampNeg 0).toInt) ∧ (((a 134).getD x1.toNatClampNeg 0).toInt ≤ 7) := hG.I.2.2.1 134 (x1.toNatClampNeg)
  have fi_7457 : ((0 : Int) ≤ (i 7457).toInt) ∧ ((i 7457).toInt ≤ 1000) := hG.I.1 7457
  refine ft_go mi_k212 4 65 [(0, .ref 116), (1, .int x1), (2, .int 4), (3, .int x3)] [.int 50, .ref 116] i a q r (by rfl) ?_
  refine ko_callN mi_k212.1 (pc := 65) (ls := [(0, .ref 116), (1, .int x1), (2, .int 4), (3, .int x3)]) (st := [.int 50, .ref 116]) (h := ks i a q r) (i := (.invokevirtual 351, 3, 209, 0, 9, 0, 464)) (mi_k212.2 _ _ (by rfl)) (ft_invS mi_pq209 (by rfl)) (cy := mi_c209) mi_pq209 rfl (kc209_116 hG.I hG.R 50 (oz1527 fi_7457.1 hp2.2)) (by decide) ?_
  intro ig2 ag2 qg2 rg2 kg2 hg2
  have hGg2 := kG_call hG kg2 (by decide +kernel)
  have fig2_7457 : ((0 : Int) ≤ (ig2 7457).toInt) ∧ ((ig2 7457).toInt ≤ 1000) := hGg2.I.1 7457
  have z3 : (ig2 7457).toInt = ((i 7457).toInt + 1) := hg2
  refine ft_go mi_k212 4 72 [(0, .ref 116), (1, .int x1), (2, .int 4), (3, .int x3)] [.int x3, .int 1, .int x1, .ref 116] ig2 ag2 qg2 rg2 (by rfl) ?_
  have r4 : ((0 : Int) ≤ ((ag2 134).getD x1.toNatClampNeg 0).toInt) ∧ (((ag2 134).getD x1.toNatClampNeg 0).toInt ≤ 7) := hGg2.I.2.2.1 134 (x1.toNatClampNeg)
  have u5 : ((ag2 134).getD x1.toNatClampNeg 0).toInt = ((a 134).getD x1.toNatClampNeg 0).toInt := congrArg (fun z : List Int32 => (z.getD x1.toNatClampNeg 0).toInt) (kg2.fa 134 rfl)
  refine ko_callI mi_k212.1 (pc := 72) (ls := [(0, .ref 116), (1, .int x1), (2, .int 4), (3, .int x3)]) (st := [.int x3, .int 1, .int x1, .ref 116]) (h := ks ig2 ag2 qg2 rg2) (i := (.invokevirtual 363, 3, 212, 0, 9, 0, 467)) (mi_k212.2 _ _ (by rfl)) (ft_invS mi_pq212 (by rfl)) (cy := mi_c212) mi_pq212 rfl (kc212_116_l11_K7 hGg2.I hGg2.R x1 x3 (oz1339 hp0.1 hp0.2) (oz1496 hp1 r4.2 u5) (oz1561 fig2_7457.1 hp2.2 z3)) (by decide) ?_
  intro vg6 ig6 ag6 qg6 rg6 kg6 hg6
  have hGg6 := kG_call hGg2 kg6 (by decide +kernel)
  have fig6_7457 : ((0 : Int) ≤ (ig6 7457).toInt) ∧ ((ig6 7457).toInt ≤ 1000) := hGg6.I.1 7457
  have z7 : (ig6 7457).toInt = ((ig2 7457).toInt + 1) := hg6
  refine ft_go mi_k212 7 86 [(4, .int vg6), (0, .ref 116), (1, .int x1), (2, .int 4), (3, .int x3)] [.int x1, .ref 134, .int x1, .ref 116, .int vg6] ig6 ag6 qg6 rg6 (by rfl) ?_
  refine ko_iald3 mi_k212.1 (n := 50) (c := 50) (ax := (0, 0, 0, 0, 0)) (mi_k212.2 _ _ (by rfl)) (by rfl) (ksG134 _ _ _ _) (hGg6.I.2.1 134) rfl (oz3 hp0.1) (oz1336 hp0.2) ?_
  have r8 : ((0 : Int) ≤ ((ag6 134).getD x1.toNatClampNeg 0).toInt) ∧ (((ag6 134).getD x1.toNatClampNeg 0).toInt ≤ 7) := hGg6.I.2.2.1 134 (x1.toNatClampNeg)
  have u9 : ((ag6 134).getD x1.toNatClampNeg 0).toInt = ((ag2 134).getD x1.toNatClampNeg 0).toInt := congrArg (fun z : List Int32 => (z.getD x1.toNatClampNeg 0).toInt) (kg6.fa 134 rfl)
  refine ko_eq (x1 := (87, [(4, .int vg6), (0, .ref 116), (1, .int x1), (2, .int 4), (3, .int x3)], [.int 7, .int x1, .ref 116, .int vg6], (0, 0), ks ig6 ag6 qg6 rg6)) (by rw [(kj_eq (oz1504 hp1 r8.2 u5 u9) (by decide) : ((ag6 134).getD x1.toNatClampNeg 0) = 7)]) ?_
  refine ft_go mi_k212 1 88 [(4, .int vg6), (0, .ref 116), (1, .int x1), (2, .int 4), (3, .int x3)] [.int 2, .int 7, .int x1, .ref 116, .int vg6] ig6 ag6 qg6 rg6 (by rfl) ?_
  refine ko_callI mi_k212.1 (pc := 88) (ls := [(4, .int vg6), (0, .ref 116), (1, .int x1), (2, .int 4), (3, .int x3)]) (st := [.int 2, .int 7, .int x1, .ref 116, .int vg6]) (h := ks ig6 ag6 qg6 rg6) (i := (.invokevirtual 354, 3, 210, 0, 9, 0, 463)) (mi_k212.2 _ _ (by rfl)) (ft_invS mi_pq210 (by rfl)) (cy := mi_c210) mi_pq210 rfl (kc210_116_l17_K7 hGg6.I hGg6.R x1 2 (oz1339 hp0.1 hp0.2) (oz1504 hp1 r8.2 u5 u9) (oz1562 fig6_7457.1 hp2.2 z3 z7)) (by decide) ?_
  intro vg10 ig10 ag10 qg10 rg10 kg10 hg10
  have hGg10 := kG_call hGg6 kg10 (by decide +kernel)
  have z11 : (ig10 7457).toInt = ((ig6 7457).toInt + 2) := hg10
  have b12 : ((-2147483648 : Int) ≤ vg6.toInt) ∧ (vg6.toInt ≤ 2147483647) := kd_bd vg6
  have b13 : ((-2147483648 : Int) ≤ vg10.toInt) ∧ (vg10.toInt ≤ 2147483647) := kd_bd vg10
  refine ft_go mi_k212 1 92 [(4, .int vg6), (0, .ref 116), (1, .int x1), (2, .int 4), (3, .int x3)] [.int (vg6 - vg10)] ig10 ag10 qg10 rg10 (by rfl) ?_
  exact ft_ret mi_k212 (by rfl) (hP (vg6 - vg10) _ _ _ _ hGg10 (oz1563 z11 z3 z7))
def w212_116_l17_K7 : kW := ([7457], [135], [], [])
set_option maxRecDepth 100000 in
theorem kc212_116_l17_K7 {i : Nat → Int32} {a : Nat → List Int32} {q : Nat → List Int64} {r : Nat → Nat} (hI : kI i a q) (hr : kr r) (x1 : Int32) (x3 : Int32) (hp0 : ((0 : Int) ≤ x1.toInt) ∧ (x1.toInt ≤ 49)) (hp1 : ((a 134).getD x1.toNatClampNeg 0).toInt = 7) (hp2 : ((0 : Int) ≤ (i 7457).toInt) ∧ (((i 7457).toInt + 4) ≤ 900)) : km 13 212 [.ref 116, .int x1, .int 7, .int x3] (ks i a q r) (kVI w212_116_l17_K7 i a q r (fun v i1 a1 q1 r1 => (i1 7457).toInt = ((i 7457).toInt + 4))) := by
  have hG := kG_self w212_116_l17_K7 hI hr
  refine km_ofI (q := (mi_h212, mi_c212)) rfl (by decide) (Nat.le_of_ble_eq_true rfl) ?_
  intro P hP
  have r1 : ((0 : Int) ≤ ((a 134).getD x1.toNatClampNeg 0).toInt) ∧ (((a 134).getD x1.toNatClampNeg 0).toInt ≤ 7) := hG.I.2.2.1 134 (x1.toNatClampNeg)
  have fi_7457 : ((0 : Int) ≤ (i 7457).toInt) ∧ ((i 7457).toInt ≤ 1000) := hG.I.1 7457
  refine ft_go mi_k212 5 96 [(0, .ref 116), (1, .int x1), (2, .int 7), (3, .int x3)] [.int 7, .int x1, .ref 116] i a q r (by rfl) ?_
  refine ko_callPI mi_k212.1 (pc := 96) (ls := [(0, .ref 116), (1, .int x1), (2, .int 7), (3, .int x3)]) (st := [.int 7, .int x1, .ref 116]) (h := ks i a q r) (i := (.invokestatic 357, 3, 208, 0, 9, 0, 465)) (mi_k212.2 _ _ (by rfl)) (ft_invS mi_pq208 (by rfl)) (cy := mi_c208) mi_pq208 rfl (kc208_l07 hG.I hG.R ) (by decide) ?_
  intro vg2 hg2
  have z3 : vg2.toInt = 4 := hg2
  have evvg2 := kj_eq (oz1446 z3) (by decide : (4 : Int32).toInt = 4)
  subst evvg2
  refine ft_go mi_k212 1 100 [(0, .ref 116), (1, .int x1), (2, .int 7), (3, .int x3)] [.int x3, .int 4, .int x1, .ref 116] i a q r (by rfl) ?_
  refine ko_callI mi_k212.1 (pc := 100) (ls := [(0, .ref 116), (1, .int x1), (2, .int 7), (3, .int x3)]) (st := [.int x3, .int 4, .int x1, .ref 116]) (h := ks i a q r) (i := (.invokevirtual 363, 3, 212, 0, 9, 0, 467)) (mi_k212.2 _ _ (by rfl)) (ft_invS mi_pq212 (by rfl)) (cy := mi_c212) mi_pq212 rfl (kc212_116_l14_K7 hG.I hG.R x1 x3 (oz1339 hp0.1 hp0.2) (oz1495 hp1 r1.2) (oz1568 fi_7457.1 hp2.2)) (by decide) ?_
  intro vg4 ig4 ag4 qg4 rg4 kg4 hg4
  have hGg4 := kG_call hG kg4 (by decide +kernel)
  have z5 : (ig4 7457).toInt = ((i 7457).toInt + 4) := hg4
  exact ft_ret mi_k212 (by rfl) (hP vg4 _ _ _ _ hGg4 (oz1569 z5))
def w211_116_l17_K7 : kW := ([7457], [135], [], [])
set_option maxRecDepth 100000 in
theorem kc211_116_l17_K7 {i : Nat → Int32} {a : Nat → List Int32} {q : Nat → List Int64} {r : Nat → Nat} (hI : kI i a q) (hr : kr r) (x1 : Int32) (x3 : Int32) (hp0 : ((0 : Int) ≤ x1.toInt) ∧ (x1.toInt ≤ 49)) (hp1 : ((a 134).getD x1.toNatClampNeg 0).toInt = 7) (hp2 : ((0 : Int) ≤ (i 7457).toInt) ∧ (((i 7457).toInt + 8) ≤ 900)) : km 17 211 [.ref 116, .int x1, .int 7, .int x3] (ks i a q r) (kVI w211_116_l17_K7 i a q r (fun v i1 a1 q1 r1 => (i1 7457).toInt = ((i 7457).toInt + 8))) := by
  have hG := kG_self w211_116_l17_K7 hI hr
  refine km_ofI (q := (mi_h211, mi_c211)) rfl (by decide) (Nat.le_of_ble_eq_true rfl) ?_
  intro P hP
  have r1 : ((0 : Int) ≤ ((a 134).getD x1.toNatClampNeg 0).toInt) ∧ (((a 134).getD x1.toNatClampNeg 0).toInt ≤ 7) := hG.I.2.2.1 134 (x1.toNatClampNeg)
  have fi_7457 : ((0 : Int) ≤ (i 7457).toInt) ∧ ((i 7457).toInt ≤ 1000) := hG.I.1 7457
  refine ft_go mi_k211 4 103 [(0, .ref 116), (1, .int x1), (2, .int 7), (3, .int x3)] [.int 80, .ref 116] i a q r (by rfl) ?_
  refine ko_callN mi_k211.1 (pc := 103) (ls := [(0, .ref 116), (1, .int x1), (2, .int 7), (3, .int x3)]) (st := [.int 80, .ref 116]) (h := ks i a q r) (i := (.invokevirtual 351, 3, 209, 0, 9, 0, 464)) (mi_k211.2 _ _ (by rfl)) (ft_invS mi_pq209 (by rfl)) (cy := mi_c209) mi_pq209 rfl (kc209_116 hG.I hG.R 80 (oz1559 fi_7457.1 hp2.2)) (by decide) ?_
  intro ig2 ag2 qg2 rg2 kg2 hg2
  have hGg2 := kG_call hG kg2 (by decide +kernel)
  have fig2_7457 : ((0 : Int) ≤ (ig2 7457).toInt) ∧ ((ig2 7457).toInt ≤ 1000) := hGg2.I.1 7457
  have z3 : (ig2 7457).toInt = ((i 7457).toInt + 1) := hg2
  refine ft_go mi_k211 4 110 [(0, .ref 116), (1, .int x1), (2, .int 7), (3, .int x3)] [.int x3, .int 4, .int x1, .ref 116] ig2 ag2 qg2 rg2 (by rfl) ?_
  have r4 : ((0 : Int) ≤ ((ag2 134).getD x1.toNatClampNeg 0).toInt) ∧ (((ag2 134).getD x1.toNatClampNeg 0).toInt ≤ 7) := hGg2.I.2.2.1 134 (x1.toNatClampNeg)
  have u5 : ((ag2 134).getD x1.toNatClampNeg 0).toInt = ((a 134).getD x1.toNatClampNeg 0).toInt := congrArg (fun z : List Int32 => (z.getD x1.toNatClampNeg 0).toInt) (kg2.fa 134 rfl)
  refine ko_callI mi_k211.1 (pc := 110) (ls := [(0, .ref 116), (1, .int x1), (2, .int 7), (3, .int x3)]) (st := [.int x3, .int 4, .int x1, .ref 116]) (h := ks ig2 ag2 qg2 rg2) (i := (.invokevirtual 360, 3, 211, 0, 9, 0, 466)) (mi_k211.2 _ _ (by rfl)) (ft_invS mi_pq211 (by rfl)) (cy := mi_c211) mi_pq211 rfl (kc211_116_l14_K7 hGg2.I hGg2.R x1 x3 (oz1339 hp0.1 hp0.2) (oz1496 hp1 r4.2 u5) (oz1560 fig2_7457.1 hp2.2 z3)) (by decide) ?_
  intro vg6 ig6 ag6 qg6 rg6 kg6 hg6
  have hGg6 := kG_call hGg2 kg6 (by decide +kernel)
  have fig6_7457 : ((0 : Int) ≤ (ig6 7457).toInt) ∧ ((ig6 7457).toInt ≤ 1000) := hGg6.I.1 7457
  have z7 : (ig6 7457).toInt = ((ig2 7457).toInt + 3) := hg6
  refine ft_go mi_k211 7 124 [(4, .int vg6), (0, .ref 116), (1, .int x1), (2, .int 7), (3, .int x3)] [.int x1, .ref 134, .int x1, .ref 116, .int vg6] ig6 ag6 qg6 rg6 (by rfl) ?_
  refine ko_iald3 mi_k211.1 (n := 50) (c := 50) (ax := (0, 0, 0, 0, 0)) (mi_k211.2 _ _ (by rfl)) (by rfl) (ksG134 _ _ _ _) (hGg6.I.2.1 134) rfl (oz3 hp0.1) (oz1336 hp0.2) ?_
  have r8 : ((0 : Int) ≤ ((ag6 134).getD x1.toNatClampNeg 0).toInt) ∧ (((ag6 134).getD x1.toNatClampNeg 0).toInt ≤ 7) := hGg6.I.2.2.1 134 (x1.toNatClampNeg)
  have u9 : ((ag6 134).getD x1.toNatClampNeg 0).toInt = ((ag2 134).getD x1.toNatClampNeg 0).toInt := congrArg (fun z : List Int32 => (z.getD x1.toNatClampNeg 0).toInt) (kg6.fa 134 rfl)
  refine ko_eq (x1 := (125, [(4, .int vg6), (0, .ref 116), (1, .int x1), (2, .int 7), (3, .int x3)], [.int 7, .int x1, .ref 116, .int vg6], (0, 0), ks ig6 ag6 qg6 rg6)) (by rw [(kj_eq (oz1504 hp1 r8.2 u5 u9) (by decide) : ((ag6 134).getD x1.toNatClampNeg 0) = 7)]) ?_
  refine ft_go mi_k211 1 126 [(4, .int vg6), (0, .ref 116), (1, .int x1), (2, .int 7), (3, .int x3)] [.int 2, .int 7, .int x1, .ref 116, .int vg6] ig6 ag6 qg6 rg6 (by rfl) ?_
  refine ko_callI mi_k211.1 (pc := 126) (ls := [(4, .int vg6), (0, .ref 116), (1, .int x1), (2, .int 7), (3, .int x3)]) (st := [.int 2, .int 7, .int x1, .ref 116, .int vg6]) (h := ks ig6 ag6 qg6 rg6) (i := (.invokevirtual 363, 3, 212, 0, 9, 0, 467)) (mi_k211.2 _ _ (by rfl)) (ft_invS mi_pq212 (by rfl)) (cy := mi_c212) mi_pq212 rfl (kc212_116_l17_K7 hGg6.I hGg6.R x1 2 (oz1339 hp0.1 hp0.2) (oz1504 hp1 r8.2 u5 u9) (oz1564 fig6_7457.1 hp2.2 z3 z7)) (by decide) ?_
  intro vg10 ig10 ag10 qg10 rg10 kg10 hg10
  have hGg10 := kG_call hGg6 kg10 (by decide +kernel)
  have z11 : (ig10 7457).toInt = ((ig6 7457).toInt + 4) := hg10
  have b12 : ((-2147483648 : Int) ≤ vg6.toInt) ∧ (vg6.toInt ≤ 2147483647) := kd_bd vg6
  have b13 : ((-2147483648 : Int) ≤ vg10.toInt) ∧ (vg10.toInt ≤ 2147483647) := kd_bd vg10
  refine ft_go mi_k211 1 130 [(4, .int vg6), (0, .ref 116), (1, .int x1), (2, .int 7), (3, .int x3)] [.int (vg6 + vg10)] ig10 ag10 qg10 rg10 (by rfl) ?_
  exact ft_ret mi_k211 (by rfl) (hP (vg6 + vg10) _ _ _ _ hGg10 (oz1565 z11 z3 z7))
def w213_116_l10_K7 : kW := ([7457], [135], [], [])
set_option maxRecDepth 100000 in
theorem kc213_116_l10_K7 {i : Nat → Int32} {a : Nat → List Int32} {q : Nat → List Int64} {r : Nat → Nat} (hI : kI i a q) (hr : kr r) (x1 : Int32) (x3 : Int32) (hp0 : ((0 : Int) ≤ x1.toInt) ∧ (x1.toInt ≤ 49)) (hp1 : ((a 134).getD x1.toNatClampNeg 0).toInt = 7) (hp2 : ((0 : Int) ≤ (i 7457).toInt) ∧ (((i 7457).toInt + 13) ≤ 900)) : km 19 213 [.ref 116, .int x1, .int 0, .int x3] (ks i a q r) (kVI w213_116_l10_K7 i a q r (fun v i1 a1 q1 r1 => (i1 7457).toInt = ((i 7457).toInt + 13))) := by
  have hG := kG_self w213_116_l10_K7 hI hr
  refine km_ofI (q := (mi_h213, mi_c213)) rfl (by decide) (Nat.le_of_ble_eq_true rfl) ?_
  intro P hP
  have r1 : ((0 : Int) ≤ ((a 134).getD x1.toNatClampNeg 0).toInt) ∧ (((a 134).getD x1.toNatClampNeg 0).toInt ≤ 7) := hG.I.2.2.1 134 (x1.toNatClampNeg)
  have fi_7457 : ((0 : Int) ≤ (i 7457).toInt) ∧ ((i 7457).toInt ≤ 1000) := hG.I.1 7457
  refine ft_go mi_k213 4 38 [(0, .ref 116), (1, .int x1), (2, .int 0), (3, .int x3)] [.int 2, .ref 116] i a q r (by rfl) ?_
  refine ko_callN mi_k213.1 (pc := 38) (ls := [(0, .ref 116), (1, .int x1), (2, .int 0), (3, .int x3)]) (st := [.int 2, .ref 116]) (h := ks i a q r) (i := (.invokevirtual 351, 3, 209, 0, 9, 0, 464)) (mi_k213.2 _ _ (by rfl)) (ft_invS mi_pq209 (by rfl)) (cy := mi_c209) mi_pq209 rfl (kc209_116 hG.I hG.R 2 (oz1575 fi_7457.1 hp2.2)) (by decide) ?_
  intro ig2 ag2 qg2 rg2 kg2 hg2
  have hGg2 := kG_call hG kg2 (by decide +kernel)
  have fig2_7457 : ((0 : Int) ≤ (ig2 7457).toInt) ∧ ((ig2 7457).toInt ≤ 1000) := hGg2.I.1 7457
  have z3 : (ig2 7457).toInt = ((i 7457).toInt + 1) := hg2
  refine ft_go mi_k213 5 48 [(0, .ref 116), (1, .int x1), (2, .int 0), (3, .int x3)] [.int x1, .ref 134, .int x1, .ref 116] ig2 ag2 qg2 rg2 (by rfl) ?_
  refine ko_iald3 mi_k213.1 (n := 50) (c := 50) (ax := (0, 0, 0, 0, 0)) (mi_k213.2 _ _ (by rfl)) (by rfl) (ksG134 _ _ _ _) (hGg2.I.2.1 134) rfl (oz3 hp0.1) (oz1336 hp0.2) ?_
  have r4 : ((0 : Int) ≤ ((ag2 134).getD x1.toNatClampNeg 0).toInt) ∧ (((ag2 134).getD x1.toNatClampNeg 0).toInt ≤ 7) := hGg2.I.2.2.1 134 (x1.toNatClampNeg)
  have u5 : ((ag2 134).getD x1.toNatClampNeg 0).toInt = ((a 134).getD x1.toNatClampNeg 0).toInt := congrArg (fun z : List Int32 => (z.getD x1.toNatClampNeg 0).toInt) (kg2.fa 134 rfl)
  refine ko_eq (x1 := (49, [(0, .ref 116), (1, .int x1), (2, .int 0), (3, .int x3)], [.int 7, .int x1, .ref 116], (0, 0), ks ig2 ag2 qg2 rg2)) (by rw [(kj_eq (oz1496 hp1 r4.2 u5) (by decide) : ((ag2 134).getD x1.toNatClampNeg 0) = 7)]) ?_
  refine ft_go mi_k213 1 50 [(0, .ref 116), (1, .int x1), (2, .int 0), (3, .int x3)] [.int x3, .int 7, .int x1, .ref 116] ig2 ag2 qg2 rg2 (by rfl) ?_
  refine ko_callI mi_k213.1 (pc := 50) (ls := [(0, .ref 116), (1, .int x1), (2, .int 0), (3, .int x3)]) (st := [.int x3, .int 7, .int x1, .ref 116]) (h := ks ig2 ag2 qg2 rg2) (i := (.invokevirtual 360, 3, 211, 0, 9, 0, 466)) (mi_k213.2 _ _ (by rfl)) (ft_invS mi_pq211 (by rfl)) (cy := mi_c211) mi_pq211 rfl (kc211_116_l17_K7 hGg2.I hGg2.R x1 x3 (oz1339 hp0.1 hp0.2) (oz1496 hp1 r4.2 u5) (oz1576 fig2_7457.1 hp2.2 z3)) (by decide) ?_
  intro vg6 ig6 ag6 qg6 rg6 kg6 hg6
  have hGg6 := kG_call hGg2 kg6 (by decide +kernel)
  have fig6_7457 : ((0 : Int) ≤ (ig6 7457).toInt) ∧ ((ig6 7457).toInt ≤ 1000) := hGg6.I.1 7457
  have z7 : (ig6 7457).toInt = ((ig2 7457).toInt + 8) := hg6
  refine ft_go mi_k213 7 64 [(4, .int vg6), (0, .ref 116), (1, .int x1), (2, .int 0), (3, .int x3)] [.int x1, .ref 134, .int x1, .ref 116, .int vg6] ig6 ag6 qg6 rg6 (by rfl) ?_
  refine ko_iald3 mi_k213.1 (n := 50) (c := 50) (ax := (0, 0, 0, 0, 0)) (mi_k213.2 _ _ (by rfl)) (by rfl) (ksG134 _ _ _ _) (hGg6.I.2.1 134) rfl (oz3 hp0.1) (oz1336 hp0.2) ?_
  have r8 : ((0 : Int) ≤ ((ag6 134).getD x1.toNatClampNeg 0).toInt) ∧ (((ag6 134).getD x1.toNatClampNeg 0).toInt ≤ 7) := hGg6.I.2.2.1 134 (x1.toNatClampNeg)
  have u9 : ((ag6 134).getD x1.toNatClampNeg 0).toInt = ((ag2 134).getD x1.toNatClampNeg 0).toInt := congrArg (fun z : List Int32 => (z.getD x1.toNatClampNeg 0).toInt) (kg6.fa 134 rfl)
  refine ko_eq (x1 := (65, [(4, .int vg6), (0, .ref 116), (1, .int x1), (2, .int 0), (3, .int x3)], [.int 7, .int x1, .ref 116, .int vg6], (0, 0), ks ig6 ag6 qg6 rg6)) (by rw [(kj_eq (oz1504 hp1 r8.2 u5 u9) (by decide) : ((ag6 134).getD x1.toNatClampNeg 0) = 7)]) ?_
  refine ft_go mi_k213 1 66 [(4, .int vg6), (0, .ref 116), (1, .int x1), (2, .int 0), (3, .int x3)] [.int 1, .int 7, .int x1, .ref 116, .int vg6] ig6 ag6 qg6 rg6 (by rfl) ?_
  refine ko_callI mi_k213.1 (pc := 66) (ls := [(4, .int vg6), (0, .ref 116), (1, .int x1), (2, .int 0), (3, .int x3)]) (st := [.int 1, .int 7, .int x1, .ref 116, .int vg6]) (h := ks ig6 ag6 qg6 rg6) (i := (.invokevirtual 363, 3, 212, 0, 9, 0, 467)) (mi_k213.2 _ _ (by rfl)) (ft_invS mi_pq212 (by rfl)) (cy := mi_c212) mi_pq212 rfl (kc212_116_l17_K7 hGg6.I hGg6.R x1 1 (oz1339 hp0.1 hp0.2) (oz1504 hp1 r8.2 u5 u9) (oz1577 fig6_7457.1 hp2.2 z3 z7)) (by decide) ?_
  intro vg10 ig10 ag10 qg10 rg10 kg10 hg10
  have hGg10 := kG_call hGg6 kg10 (by decide +kernel)
  have z11 : (ig10 7457).toInt = ((ig6 7457).toInt + 4) := hg10
  have b12 : ((-2147483648 : Int) ≤ vg6.toInt) ∧ (vg6.toInt ≤ 2147483647) := kd_bd vg6
  have b13 : ((-2147483648 : Int) ≤ vg10.toInt) ∧ (vg10.toInt ≤ 2147483647) := kd_bd vg10
  refine ft_go mi_k213 1 70 [(4, .int vg6), (0, .ref 116), (1, .int x1), (2, .int 0), (3, .int x3)] [.int (vg6 - vg10)] ig10 ag10 qg10 rg10 (by rfl) ?_
  exact ft_ret mi_k213 (by rfl) (hP (vg6 - vg10) _ _ _ _ hGg10 (oz1578 z11 z3 z7))
def w213_116_l11_K7 : kW := ([7457], [135], [], [])
set_option maxRecDepth 100000 in
theorem kc213_116_l11_K7 {i : Nat → Int32} {a : Nat → List Int32} {q : Nat → List Int64} {r : Nat → Nat} (hI : kI i a q) (hr : kr r) (x1 : Int32) (x3 : Int32) (hp0 : ((0 : Int) ≤ x1.toInt) ∧ (x1.toInt ≤ 49)) (hp1 : ((a 134).getD x1.toNatClampNeg 0).toInt = 7) (hp2 : ((0 : Int) ≤ (i 7457).toInt) ∧ (((i 7457).toInt + 13) ≤ 900)) : km 21 213 [.ref 116, .int x1, .int 1, .int x3] (ks i a q r) (kVI w213_116_l11_K7 i a q r (fun v i1 a1 q1 r1 => (i1 7457).toInt = ((i 7457).toInt + 13))) := by
  have hG := kG_self w213_116_l11_K7 hI hr
  refine km_ofI (q := (mi_h213, mi_c213)) rfl (by decide) (Nat.le_of_ble_eq_true rfl) ?_
  intro P hP
  have r1 : ((0 : Int) ≤ ((a 134).getD x1.toNatClampNeg 0).toInt) ∧ (((a 134).getD x1.toNatClampNeg 0).toInt ≤ 7) := hG.I.2.2.1 134 (x1.toNatClampNeg)
  have fi_7457 : ((0 : Int) ≤ (i 7457).toInt) ∧ ((i 7457).toInt ≤ 1000) := hG.I.1 7457
  refine ft_go mi_k213 5 106 [(0, .ref 116), (1, .int x1), (2, .int 1), (3, .int x3)] [.int 1, .int x1, .ref 116] i a q r (by rfl) ?_
  refine ko_callPI mi_k213.1 (pc := 106) (ls := [(0, .ref 116), (1, .int x1), (2, .int 1), (3, .int x3)]) (st := [.int 1, .int x1, .ref 116]) (h := ks i a q r) (i := (.invokestatic 357, 3, 208, 0, 9, 0, 465)) (mi_k213.2 _ _ (by rfl)) (ft_invS mi_pq208 (by rfl)) (cy := mi_c208) mi_pq208 rfl (kc208_l01 hG.I hG.R ) (by decide) ?_
  intro vg2 hg2
  have z3 : vg2.toInt = 0 := hg2
  have evvg2 := kj_eq (oz236 z3) (by decide : (0 : Int32).toInt = 0)
  subst evvg2
  refine ft_go mi_k213 1 110 [(0, .ref 116), (1, .int x1), (2, .int 1), (3, .int x3)] [.int x3, .int 0, .int x1, .ref 116] i a q r (by rfl) ?_
  refine ko_callI mi_k213.1 (pc := 110) (ls := [(0, .ref 116), (1, .int x1), (2, .int 1), (3, .int x3)]) (st := [.int x3, .int 0, .int x1, .ref 116]) (h := ks i a q r) (i := (.invokevirtual 366, 3, 213, 0, 9, 0, 468)) (mi_k213.2 _ _ (by rfl)) (ft_invS mi_pq213 (by rfl)) (cy := mi_c213) mi_pq213 rfl (kc213_116_l10_K7 hG.I hG.R x1 x3 (oz1339 hp0.1 hp0.2) (oz1495 hp1 r1.2) (oz1579 fi_7457.1 hp2.2)) (by decide) ?_
  intro vg4 ig4 ag4 qg4 rg4 kg4 hg4
  have hGg4 := kG_call hG kg4 (by decide +kernel)
  have z5 : (ig4 7457).toInt = ((i 7457).toInt + 13) := hg4
  exact ft_ret mi_k213 (by rfl) (hP vg4 _ _ _ _ hGg4 (oz1580 z5))
def w213_116_l14_K7 : kW := ([7457], [135], [], [])
set_option maxRecDepth 100000 in
theorem kc213_116_l14_K7 {i : Nat → Int32} {a : Nat → List Int32} {q : Nat → List Int64} {r : Nat → Nat} (hI : kI i a q) (hr : kr r) (x1 : Int32) (x3 : Int32) (hp0 : ((0 : Int) ≤ x1.toInt) ∧ (x1.toInt ≤ 49)) (hp1 : ((a 134).getD x1.toNatClampNeg 0).toInt = 7) (hp2 : ((0 : Int) ≤ (i 7457).toInt) ∧ (((i 7457).toInt + 13) ≤ 900)) : km 23 213 [.ref 116, .int x1, .int 4, .int x3] (ks i a q r) (kVI w213_116_l14_K7 i a q r (fun v i1 a1 q1 r1 => (i1 7457).toInt = ((i 7457).toInt + 13))) := by
  have hG := kG_self w213_116_l14_K7 hI hr
  refine km_ofI (q := (mi_h213, mi_c213)) rfl (by decide) (Nat.le_of_ble_eq_true rfl) ?_
  intro P hP
  have r1 : ((0 : Int) ≤ ((a 134).getD x1.toNatClampNeg 0).toInt) ∧ (((a 134).getD x1.toNatClampNeg 0).toInt ≤ 7) := hG.I.2.2.1 134 (x1.toNatClampNeg)
  have fi_7457 : ((0 : Int) ≤ (i 7457).toInt) ∧ ((i 7457).toInt ≤ 1000) := hG.I.1 7457
  refine ft_go mi_k213 5 106 [(0, .ref 116), (1, .int x1), (2, .int 4), (3, .int x3)] [.int 4, .int x1, .ref 116] i a q r (by rfl) ?_
  refine ko_callPI mi_k213.1 (pc := 106) (ls := [(0, .ref 116), (1, .int x1), (2, .int 4), (3, .int x3)]) (st := [.int 4, .int x1, .ref 116]) (h := ks i a q r) (i := (.invokestatic 357, 3, 208, 0, 9, 0, 465)) (mi_k213.2 _ _ (by rfl)) (ft_invS mi_pq208 (by rfl)) (cy := mi_c208) mi_pq208 rfl (kc208_l04 hG.I hG.R ) (by decide) ?_
  intro vg2 hg2
  have z3 : vg2.toInt = 1 := hg2
  have evvg2 := kj_eq (oz1381 z3) (by decide : (1 : Int32).toInt = 1)
  subst evvg2
  refine ft_go mi_k213 1 110 [(0, .ref 116), (1, .int x1), (2, .int 4), (3, .int x3)] [.int x3, .int 1, .int x1, .ref 116] i a q r (by rfl) ?_
  refine ko_callI mi_k213.1 (pc := 110) (ls := [(0, .ref 116), (1, .int x1), (2, .int 4), (3, .int x3)]) (st := [.int x3, .int 1, .int x1, .ref 116]) (h := ks i a q r) (i := (.invokevirtual 366, 3, 213, 0, 9, 0, 468)) (mi_k213.2 _ _ (by rfl)) (ft_invS mi_pq213 (by rfl)) (cy := mi_c213) mi_pq213 rfl (kc213_116_l11_K7 hG.I hG.R x1 x3 (oz1339 hp0.1 hp0.2) (oz1495 hp1 r1.2) (oz1579 fi_7457.1 hp2.2)) (by decide) ?_
  intro vg4 ig4 ag4 qg4 rg4 kg4 hg4
  have hGg4 := kG_call hG kg4 (by decide +kernel)
  have z5 : (ig4 7457).toInt = ((i 7457).toInt + 13) := hg4
  exact ft_ret mi_k213 (by rfl) (hP vg4 _ _ _ _ hGg4 (oz1580 z5))
def w213_116_l17_K7 : kW := ([7457], [135], [], [])
set_option maxRecDepth 100000 in
theorem kc213_116_l17_K7 {i : Nat → Int32} {a : Nat → List Int32} {q : Nat → List Int64} {r : Nat → Nat} (hI : kI i a q) (hr : kr r) (x1 : Int32) (x3 : Int32) (hp0 : ((0 : Int) ≤ x1.toInt) ∧ (x1.toInt ≤ 49)) (hp1 : ((a 134).getD x1.toNatClampNeg 0).toInt = 7) (hp2 : ((0 : Int) ≤ (i 7457).toInt) ∧ (((i 7457).toInt + 14) ≤ 900)) : km 25 213 [.ref 116, .int x1, .int 7, .int x3] (ks i a q r) (kVI w213_116_l17_K7 i a q r (fun v i1 a1 q1 r1 => (i1 7457).toInt = ((i 7457).toInt + 14))) := by
  have hG := kG_self w213_116_l17_K7 hI hr
  refine km_ofI (q := (mi_h213, mi_c213)) rfl (by decide) (Nat.le_of_ble_eq_true rfl) ?_
  intro P hP
  have r1 : ((0 : Int) ≤ ((a 134).getD x1.toNatClampNeg 0).toInt) ∧ (((a 134).getD x1.toNatClampNeg 0).toInt ≤ 7) := hG.I.2.2.1 134 (x1.toNatClampNeg)
  have fi_7457 : ((0 : Int) ≤ (i 7457).toInt) ∧ ((i 7457).toInt ≤ 1000) := hG.I.1 7457
  refine ft_go mi_k213 4 90 [(0, .ref 116), (1, .int x1), (2, .int 7), (3, .int x3)] [.int 81, .ref 116] i a q r (by rfl) ?_
  refine ko_callN mi_k213.1 (pc := 90) (ls := [(0, .ref 116), (1, .int x1), (2, .int 7), (3, .int x3)]) (st := [.int 81, .ref 116]) (h := ks i a q r) (i := (.invokevirtual 351, 3, 209, 0, 9, 0, 464)) (mi_k213.2 _ _ (by rfl)) (ft_invS mi_pq209 (by rfl)) (cy := mi_c209) mi_pq209 rfl (kc209_116 hG.I hG.R 81 (oz1574 fi_7457.1 hp2.2)) (by decide) ?_
  intro ig2 ag2 qg2 rg2 kg2 hg2
  have hGg2 := kG_call hG kg2 (by decide +kernel)
  have fig2_7457 : ((0 : Int) ≤ (ig2 7457).toInt) ∧ ((ig2 7457).toInt ≤ 1000) := hGg2.I.1 7457
  have z3 : (ig2 7457).toInt = ((i 7457).toInt + 1) := hg2
  refine ft_go mi_k213 4 97 [(0, .ref 116), (1, .int x1), (2, .int 7), (3, .int x3)] [.int x3, .int 4, .int x1, .ref 116] ig2 ag2 qg2 rg2 (by rfl) ?_
  have r4 : ((0 : Int) ≤ ((ag2 134).getD x1.toNatClampNeg 0).toInt) ∧ (((ag2 134).getD x1.toNatClampNeg 0).toInt ≤ 7) := hGg2.I.2.2.1 134 (x1.toNatClampNeg)
  have u5 : ((ag2 134).getD x1.toNatClampNeg 0).toInt = ((a 134).getD x1.toNatClampNeg 0).toInt := congrArg (fun z : List Int32 => (z.getD x1.toNatClampNeg 0).toInt) (kg2.fa 134 rfl)
  refine ko_callI mi_k213.1 (pc := 97) (ls := [(0, .ref 116), (1, .int x1), (2, .int 7), (3, .int x3)]) (st := [.int x3, .int 4, .int x1, .ref 116]) (h := ks ig2 ag2 qg2 rg2) (i := (.invokevirtual 366, 3, 213, 0, 9, 0, 468)) (mi_k213.2 _ _ (by rfl)) (ft_invS mi_pq213 (by rfl)) (cy := mi_c213) mi_pq213 rfl (kc213_116_l14_K7 hGg2.I hGg2.R x1 x3 (oz1339 hp0.1 hp0.2) (oz1496 hp1 r4.2 u5) (oz1581 fig2_7457.1 hp2.2 z3)) (by decide) ?_
  intro vg6 ig6 ag6 qg6 rg6 kg6 hg6
  have hGg6 := kG_call hGg2 kg6 (by decide +kernel)
  have z7 : (ig6 7457).toInt = ((ig2 7457).toInt + 13) := hg6
  have b8 : ((-2147483648 : Int) ≤ vg6.toInt) ∧ (vg6.toInt ≤ 2147483647) := kd_bd vg6
  refine ft_go mi_k213 2 102 [(0, .ref 116), (1, .int x1), (2, .int 7), (3, .int x3)] [.int (vg6 - 1)] ig6 ag6 qg6 rg6 (by rfl) ?_
  exact ft_ret mi_k213 (by rfl) (hP (vg6 - 1) _ _ _ _ hGg6 (oz1582 z3 z7))
def w215_116 : kW := ([7457], [135], [], [])
set_option maxRecDepth 100000 in
theorem kc215_116 {i : Nat → Int32} {a : Nat → List Int32} {q : Nat → List Int64} {r : Nat → Nat} (hI : kI i a q) (hr : kr r) (x1 : Int32) (x2 : Int32) (x3 : Int32) : km 27 215 [.ref 116, .int x1, .int x2, .int x3] (ks i a q r) (kVI w215_116 i a q r (fun v i1 a1 q1 r1 => True)) := by
  have hG := kG_self w215_116 hI hr
  refine km_ofI (q := (mi_h215, mi_c215)) rfl (by decide) (Nat.le_of_ble_eq_true rfl) ?_
  intro P hP
  have hJ1 := kG_i hG 7457 rfl (v := 0) ⟨(oz46 kn0), (oz1331 kn0)⟩
  have fi_7455 : ((0 : Int) ≤ (i 7455).toInt) ∧ ((i 7455).toInt ≤ 50) := hJ1.I.1 7455
  have s2 : ((i 7455) - 1).toInt = (i 7455).toInt - (1 : Int32).toInt := kd_sub (oz47 fi_7455.1 kn1) (oz583 fi_7455.2 kn1)
  refine ft_go mi_k215 9 13 [(0, .ref 116), (1, .int x1), (2, .int x2), (3, .int x3)] [.int ((i 7455) - 1), .int 0, .int x1] (ku i 7457 0) a q r (by rfl) ?_
  refine ko_callPI mi_k215.1 (pc := 13) (ls := [(0, .ref 116), (1, .int x1), (2, .int x2), (3, .int x3)]) (st := [.int ((i 7455) - 1), .int 0, .int x1]) (h := ks (ku i 7457 0) a q r) (i := (.invokestatic 119, 3, 131, 0, 9, 0, 379)) (mi_k215.2 _ _ (by rfl)) (ft_invS mi_pq131 (by rfl)) (cy := mi_c131) mi_pq131 rfl (kc131 hJ1.I hJ1.R x1 0 ((i 7455) - 1)) (by decide) ?_
  intro vg3 hg3
  rcases hg3 with ⟨eg3, hg3⟩ | ⟨eg3, hg3⟩
  ·
    subst eg3
    have z4 : ((0 : Int32).toInt ≤ x1.toInt) ∧ (x1.toInt ≤ ((i 7455) - 1).toInt) := hg3
    refine ft_go mi_k215 4 22 [(0, .ref 116), (1, .int x1), (2, .int x2), (3, .int x3)] [.int 3, .int 0, .int x2] (ku i 7457 0) a q r (by rfl) ?_
    refine ko_callPI mi_k215.1 (pc := 22) (ls := [(0, .ref 116), (1, .int x1), (2, .int x2), (3, .int x3)]) (st := [.int 3, .int 0, .int x2]) (h := ks (ku i 7457 0) a q r) (i := (.invokestatic 119, 3, 131, 0, 9, 0, 379)) (mi_k215.2 _ _ (by rfl)) (ft_invS mi_pq131 (by rfl)) (cy := mi_c131) mi_pq131 rfl (kc131 hJ1.I hJ1.R x2 0 3) (by decide) ?_
    intro vg5 hg5
    rcases hg5 with ⟨eg5, hg5⟩ | ⟨eg5, hg5⟩
    ·
      subst eg5
      refine ft_go mi_k215 4 35 [(0, .ref 116), (1, .int x1), (2, .int x2), (3, .int x3)] [.int x1, .ref 134] (ku i 7457 0) a q r (by rfl) ?_
      refine ko_iald3 mi_k215.1 (n := 50) (c := 50) (ax := (0, 0, 0, 0, 0)) (mi_k215.2 _ _ (by rfl)) (by rfl) (ksG134 _ _ _ _) (hJ1.I.2.1 134) rfl (oz389 z4.1 kn0) (oz1525 fi_7455.2 s2 z4.2 kn1) ?_
      have r7 : ((0 : Int) ≤ ((a 134).getD x1.toNatClampNeg 0).toInt) ∧ (((a 134).getD x1.toNatClampNeg 0).toInt ≤ 7) := hJ1.I.2.2.1 134 (x1.toNatClampNeg)
      refine ft_go mi_k215 2 39 [(4, .int ((a 134).getD x1.toNatClampNeg 0)), (0, .ref 116), (1, .int x1), (2, .int x2), (3, .int x3)] [.int x2] (ku i 7457 0) a q r (by rfl) ?_
      refine ft_if mi_k215 (x2 != 0) 53 42 [(4, .int ((a 134).getD x1.toNatClampNeg 0)), (0, .ref 116), (1, .int x1), (2, .int x2), (3, .int x3)] [] (by rfl) (fun c => ?_) (fun c => ?_)
      ·
        have c8 : x2.toInt ≠ (0 : Int32).toInt := kd_ne c; clear c
        refine ft_go mi_k215 2 55 [(4, .int ((a 134).getD x1.toNatClampNeg 0)), (0, .ref 116), (1, .int x1), (2, .int x2), (3, .int x3)] [.int 1, .int x2] (ku i 7457 0) a q r (by rfl) ?_
        refine ft_if mi_k215 (x2 != 1) 69 58 [(4, .int ((a 134).getD x1.toNatClampNeg 0)), (0, .ref 116), (1, .int x1), (2, .int x2), (3, .int x3)] [] (by rfl) (fun c => ?_) (fun c => ?_)
        ·
          have c9 : x2.toInt ≠ (1 : Int32).toInt := kd_ne c; clear c
          refine ft_go mi_k215 2 71 [(4, .int ((a 134).getD x1.toNatClampNeg 0)), (0, .ref 116), (1, .int x1), (2, .int x2), (3, .int x3)] [.int 2, .int x2] (ku i 7457 0) a q r (by rfl) ?_
          refine ft_if mi_k215 (x2 != 2) 85 74 [(4, .int ((a 134).getD x1.toNatClampNeg 0)), (0, .ref 116), (1, .int x1), (2, .int x2), (3, .int x3)] [] (by rfl) (fun c => ?_) (fun c => ?_)
          ·
            have c10 : x2.toInt ≠ (2 : Int32).toInt := kd_ne c; clear c
            refine ft_go mi_k215 4 90 [(4, .int ((a 134).getD x1.toNatClampNeg 0)), (0, .ref 116), (1, .int x1), (2, .int x2), (3, .int x3)] [.int x3, .int ((a 134).getD x1.toNatClampNeg 0), .int x1, .ref 116] (ku i 7457 0) a q r (by rfl) ?_
            by_cases w11 : ((a 134).getD x1.toNatClampNeg 0).toInt = 0
            ·
              refine ko_eq (x1 := (90, [(4, .int ((a 134).getD x1.toNatClampNeg 0)), (0, .ref 116), (1, .int x1), (2, .int x2), (3, .int x3)], [.int x3, .int 0, .int x1, .ref 116], (0, 0), ks (ku i 7457 0) a q r)) (by rw [(kj_eq w11 (by decide) : ((a 134).getD x1.toNatClampNeg 0) = 0)]) ?_
              refine ko_callI mi_k215.1 (pc := 90) (ls := [(4, .int ((a 134).getD x1.toNatClampNeg 0)), (0, .ref 116), (1, .int x1), (2, .int x2), (3, .int x3)]) (st := [.int x3, .int 0, .int x1, .ref 116]) (h := ks (ku i 7457 0) a q r) (i := (.invokevirtual 366, 3, 213, 0, 9, 0, 468)) (mi_k215.2 _ _ (by rfl)) (ft_invS mi_pq213 (by rfl)) (cy := mi_c213) mi_pq213 rfl (kc213_116_l10_K0 hJ1.I hJ1.R x1 x3 (oz1536 fi_7455.2 s2 z4.1 z4.2 kn1 kn0) (oz1348 r7.1 w11) (oz1378 kn0)) (by decide) ?_
              intro vg12 ig12 ag12 qg12 rg12 kg12 hg12
              have hGg12 := kG_call hJ1 kg12 (by decide +kernel)
              exact ft_ret mi_k215 (by rfl) (hP vg12 _ _ _ _ hGg12 trivial)
            by_cases w14 : ((a 134).getD x1.toNatClampNeg 0).toInt = 1
            ·
              refine ko_eq (x1 := (90, [(4, .int ((a 134).getD x1.toNatClampNeg 0)), (0, .ref 116), (1, .int x1), (2, .int x2), (3, .int x3)], [.int x3, .int 1, .int x1, .ref 116], (0, 0), ks (ku i 7457 0) a q r)) (by rw [(kj_eq w14 (by decide) : ((a 134).getD x1.toNatClampNeg 0) = 1)]) ?_
              refine ko_callI mi_k215.1 (pc := 90) (ls := [(4, .int ((a 134).getD x1.toNatClampNeg 0)), (0, .ref 116), (1, .int x1), (2, .int x2), (3, .int x3)]) (st := [.int x3, .int 1, .int x1, .ref 116]) (h := ks (ku i 7457 0) a q r) (i := (.invokevirtual 366, 3, 213, 0, 9, 0, 468)) (mi_k215.2 _ _ (by rfl)) (ft_invS mi_pq213 (by rfl)) (cy := mi_c213) mi_pq213 rfl (kc213_116_l11_K1 hJ1.I hJ1.R x1 x3 (oz1536 fi_7455.2 s2 z4.1 z4.2 kn1 kn0) (oz1381 w14) (oz1407 kn0)) (by decide) ?_
              intro vg15 ig15 ag15 qg15 rg15 kg15 hg15
              have hGg15 := kG_call hJ1 kg15 (by decide +kernel)
              exact ft_ret mi_k215 (by rfl) (hP vg15 _ _ _ _ hGg15 trivial)
            by_cases w17 : ((a 134).getD x1.toNatClampNeg 0).toInt = 2
            ·
              refine ko_eq (x1 := (90, [(4, .int ((a 134).getD x1.toNatClampNeg 0)), (0, .ref 116), (1, .int x1), (2, .int x2), (3, .int x3)], [.int x3, .int 2, .int x1, .ref 116], (0, 0), ks (ku i 7457 0) a q r)) (by rw [(kj_eq w17 (by decide) : ((a 134).getD x1.toNatClampNeg 0) = 2)]) ?_
              refine ko_callI mi_k215.1 (pc := 90) (ls := [(4, .int ((a 134).getD x1.toNatClampNeg 0)), (0, .ref 116), (1, .int x1), (2, .int x2), (3, .int x3)]) (st := [.int x3, .int 2, .int x1, .ref 116]) (h := ks (ku i 7457 0) a q r) (i := (.invokevirtual 366, 3, 213, 0, 9, 0, 468)) (mi_k215.2 _ _ (by rfl)) (ft_invS mi_pq213 (by rfl)) (cy := mi_c213) mi_pq213 rfl (kc213_116_l12_K2 hJ1.I hJ1.R x1 x3 (oz1536 fi_7455.2 s2 z4.1 z4.2 kn1 kn0) (oz1411 w17) (oz1407 kn0)) (by decide) ?_
              intro vg18 ig18 ag18 qg18 rg18 kg18 hg18
              have hGg18 := kG_call hJ1 kg18 (by decide +kernel)
              exact ft_ret mi_k215 (by rfl) (hP vg18 _ _ _ _ hGg18 trivial)
            by_cases w20 : ((a 134).getD x1.toNatClampNeg 0).toInt = 3
            ·
              refine ko_eq (x1 := (90, [(4, .int ((a 134).getD x1.toNatClampNeg 0)), (0, .ref 116), (1, .int x1), (2, .int x2), (3, .int x3)], [.int x3, .int 3, .int x1, .ref 116], (0, 0), ks (ku i 7457 0) a q r)) (by rw [(kj_eq w20 (by decide) : ((a 134).getD x1.toNatClampNeg 0) = 3)]) ?_
              refine ko_callI mi_k215.1 (pc := 90) (ls := [(4, .int ((a 134).getD x1.toNatClampNeg 0)), (0, .ref 116), (1, .int x1), (2, .int x2), (3, .int x3)]) (st := [.int x3, .int 3, .int x1, .ref 116]) (h := ks (ku i 7457 0) a q r) (i := (.invokevirtual 366, 3, 213, 0, 9, 0, 468)) (mi_k215.2 _ _ (by rfl)) (ft_invS mi_pq213 (by rfl)) (cy := mi_c213) mi_pq213 rfl (kc213_116_l13_K3 hJ1.I hJ1.R x1 x3 (oz1536 fi_7455.2 s2 z4.1 z4.2 kn1 kn0) (oz1421 w20) (oz1442 kn0)) (by decide) ?_
              intro vg21 ig21 ag21 qg21 rg21 kg21 hg21
              have hGg21 := kG_call hJ1 kg21 (by decide +kernel)
              exact ft_ret mi_k215 (by rfl) (hP vg21 _ _ _ _ hGg21 trivial)
            by_cases w23 : ((a 134).getD x1.toNatClampNeg 0).toInt = 4
            ·
              refine ko_eq (x1 := (90, [(4, .int ((a 134).getD x1.toNatClampNeg 0)), (0, .ref 116), (1, .int x1), (2, .int x2), (3, .int x3)], [.int x3, .int 4, .int x1, .ref 116], (0, 0), ks (ku i 7457 0) a q r)) (by rw [(kj_eq w23 (by decide) : ((a 134).getD x1.toNatClampNeg 0) = 4)]) ?_
              refine ko_callI mi_k215.1 (pc := 90) (ls := [(4, .int ((a 134).getD x1.toNatClampNeg 0)), (0, .ref 116), (1, .int x1), (2, .int x2), (3, .int x3)]) (st := [.int x3, .int 4, .int x1, .ref 116]) (h := ks (ku i 7457 0) a q r) (i := (.invokevirtual 366, 3, 213, 0, 9, 0, 468)) (mi_k215.2 _ _ (by rfl)) (ft_invS mi_pq213 (by rfl)) (cy := mi_c213) mi_pq213 rfl (kc213_116_l14_K4 hJ1.I hJ1.R x1 x3 (oz1536 fi_7455.2 s2 z4.1 z4.2 kn1 kn0) (oz1446 w23) (oz1466 kn0)) (by decide) ?_
              intro vg24 ig24 ag24 qg24 rg24 kg24 hg24
              have hGg24 := kG_call hJ1 kg24 (by decide +kernel)
              exact ft_ret mi_k215 (by rfl) (hP vg24 _ _ _ _ hGg24 trivial)
            by_cases w26 : ((a 134).getD x1.toNatClampNeg 0).toInt = 5
            ·
              refine ko_eq (x1 := (90, [(4, .int ((a 134).getD x1.toNatClampNeg 0)), (0, .ref 116), (1, .int x1), (2, .int x2), (3, .int x3)], [.int x3, .int 5, .int x1, .ref 116], (0, 0), ks (ku i 7457 0) a q r)) (by rw [(kj_eq w26 (by decide) : ((a 134).getD x1.toNatClampNeg 0) = 5)]) ?_
              refine ko_callI mi_k215.1 (pc := 90) (ls := [(4, .int ((a 134).getD x1.toNatClampNeg 0)), (0, .ref 116), (1, .int x1), (2, .int x2), (3, .int x3)]) (st := [.int x3, .int 5, .int x1, .ref 116]) (h := ks (ku i 7457 0) a q r) (i := (.invokevirtual 366, 3, 213, 0, 9, 0, 468)) (mi_k215.2 _ _ (by rfl)) (ft_invS mi_pq213 (by rfl)) (cy := mi_c213) mi_pq213 rfl (kc213_116_l15_K5 hJ1.I hJ1.R x1 x3 (oz1536 fi_7455.2 s2 z4.1 z4.2 kn1 kn0) (oz1470 w26) (oz1466 kn0)) (by decide) ?_
              intro vg27 ig27 ag27 qg27 rg27 kg27 hg27
              have hGg27 := kG_call hJ1 kg27 (by decide +kernel)
              exact ft_ret mi_k215 (by rfl) (hP vg27 _ _ _ _ hGg27 trivial)
            by_cases w29 : ((a 134).getD x1.toNatClampNeg 0).toInt = 6
            ·
              refine ko_eq (x1 := (90, [(4, .int ((a 134).getD x1.toNatClampNeg 0)), (0, .ref 116), (1, .int x1), (2, .int x2), (3, .int x3)], [.int x3, .int 6, .int x1, .ref 116], (0, 0), ks (ku i 7457 0) a q r)) (by rw [(kj_eq w29 (by decide) : ((a 134).getD x1.toNatClampNeg 0) = 6)]) ?_
              refine ko_callI mi_k215.1 (pc := 90) (ls := [(4, .int ((a 134).getD x1.toNatClampNeg 0)), (0, .ref 116), (1, .int x1), (2, .int x2), (3, .int x3)]) (st := [.int x3, .int 6, .int x1, .ref 116]) (h := ks (ku i 7457 0) a q r) (i := (.invokevirtual 366, 3, 213, 0, 9, 0, 468)) (mi_k215.2 _ _ (by rfl)) (ft_invS mi_pq213 (by rfl)) (cy := mi_c213) mi_pq213 rfl (kc213_116_l16_K6 hJ1.I hJ1.R x1 x3 (oz1536 fi_7455.2 s2 z4.1 z4.2 kn1 kn0) (oz1484 w29) (oz1407 kn0)) (by decide) ?_
              intro vg30 ig30 ag30 qg30 rg30 kg30 hg30
              have hGg30 := kG_call hJ1 kg30 (by decide +kernel)
              exact ft_ret mi_k215 (by rfl) (hP vg30 _ _ _ _ hGg30 trivial)
            by_cases w32 : ((a 134).getD x1.toNatClampNeg 0).toInt = 7
            ·
              refine ko_eq (x1 := (90, [(4, .int ((a 134).getD x1.toNatClampNeg 0)), (0, .ref 116), (1, .int x1), (2, .int x2), (3, .int x3)], [.int x3, .int 7, .int x1, .ref 116], (0, 0), ks (ku i 7457 0) a q r)) (by rw [(kj_eq w32 (by decide) : ((a 134).getD x1.toNatClampNeg 0) = 7)]) ?_
              refine ko_callI mi_k215.1 (pc := 90) (ls := [(4, .int ((a 134).getD x1.toNatClampNeg 0)), (0, .ref 116), (1, .int x1), (2, .int x2), (3, .int x3)]) (st := [.int x3, .int 7, .int x1, .ref 116]) (h := ks (ku i 7457 0) a q r) (i := (.invokevirtual 366, 3, 213, 0, 9, 0, 468)) (mi_k215.2 _ _ (by rfl)) (ft_invS mi_pq213 (by rfl)) (cy := mi_c213) mi_pq213 rfl (kc213_116_l17_K7 hJ1.I hJ1.R x1 x3 (oz1536 fi_7455.2 s2 z4.1 z4.2 kn1 kn0) (oz1497 r7.2 w32) (oz1523 kn0)) (by decide) ?_
              intro vg33 ig33 ag33 qg33 rg33 kg33 hg33
              have hGg33 := kG_call hJ1 kg33 (by decide +kernel)
              exact ft_ret mi_k215 (by rfl) (hP vg33 _ _ _ _ hGg33 trivial)
            exact (oz1583 r7.1 r7.2 w11 w14 w17 w20 w23 w26 w29 w32).elim
          ·
            have c35 : x2.toInt = (2 : Int32).toInt := kd_neF c; clear c
            refine ft_go mi_k215 4 79 [(4, .int ((a 134).getD x1.toNatClampNeg 0)), (0, .ref 116), (1, .int x1), (2, .int x2), (3, .int x3)] [.int x3, .int ((a 134).getD x1.toNatClampNeg 0), .int x1, .ref 116] (ku i 7457 0) a q r (by rfl) ?_
            by_cases w36 : ((a 134).getD x1.toNatClampNeg 0).toInt = 0
            ·
              refine ko_eq (x1 := (79, [(4, .int ((a 134).getD x1.toNatClampNeg 0)), (0, .ref 116), (1, .int x1), (2, .int x2), (3, .int x3)], [.int x3, .int 0, .int x1, .ref 116], (0, 0), ks (ku i 7457 0) a q r)) (by rw [(kj_eq w36 (by decide) : ((a 134).getD x1.toNatClampNeg 0) = 0)]) ?_
              refine ko_callI mi_k215.1 (pc := 79) (ls := [(4, .int ((a 134).getD x1.toNatClampNeg 0)), (0, .ref 116), (1, .int x1), (2, .int x2), (3, .int x3)]) (st := [.int x3, .int 0, .int x1, .ref 116]) (h := ks (ku i 7457 0) a q r) (i := (.invokevirtual 363, 3, 212, 0, 9, 0, 467)) (mi_k215.2 _ _ (by rfl)) (ft_invS mi_pq212 (by rfl)) (cy := mi_c212) mi_pq212 rfl (kc212_116_l10_K0 hJ1.I hJ1.R x1 x3 (oz1536 fi_7455.2 s2 z4.1 z4.2 kn1 kn0) (oz1348 r7.1 w36) (oz1350 kn0)) (by decide) ?_
              intro vg37 ig37 ag37 qg37 rg37 kg37 hg37
              have hGg37 := kG_call hJ1 kg37 (by decide +kernel)
              refine ft_go mi_k215 1 93 [(4, .int ((a 134).getD x1.toNatClampNeg 0)), (0, .ref 116), (1, .int x1), (2, .int x2), (3, .int x3)] [.int vg37] ig37 ag37 qg37 rg37 (by rfl) ?_
              exact ft_ret mi_k215 (by rfl) (hP vg37 _ _ _ _ hGg37 trivial)
            by_cases w39 : ((a 134).getD x1.toNatClampNeg 0).toInt = 1
            ·
              refine ko_eq (x1 := (79, [(4, .int ((a 134).getD x1.toNatClampNeg 0)), (0, .ref 116), (1, .int x1), (2, .int x2), (3, .int x3)], [.int x3, .int 1, .int x1, .ref 116], (0, 0), ks (ku i 7457 0) a q r)) (by rw [(kj_eq w39 (by decide) : ((a 134).getD x1.toNatClampNeg 0) = 1)]) ?_
              refine ko_callI mi_k215.1 (pc := 79) (ls := [(4, .int ((a 134).getD x1.toNatClampNeg 0)), (0, .ref 116), (1, .int x1), (2, .int x2), (3, .int x3)]) (st := [.int x3, .int 1, .int x1, .ref 116]) (h := ks (ku i 7457 0) a q r) (i := (.invokevirtual 363, 3, 212, 0, 9, 0, 467)) (mi_k215.2 _ _ (by rfl)) (ft_invS mi_pq212 (by rfl)) (cy := mi_c212) mi_pq212 rfl (kc212_116_l11_K1 hJ1.I hJ1.R x1 x3 (oz1536 fi_7455.2 s2 z4.1 z4.2 kn1 kn0) (oz1381 w39) (oz1350 kn0)) (by decide) ?_
              intro vg40 ig40 ag40 qg40 rg40 kg40 hg40
              have hGg40 := kG_call hJ1 kg40 (by decide +kernel)
              refine ft_go mi_k215 1 93 [(4, .int ((a 134).getD x1.toNatClampNeg 0)), (0, .ref 116), (1, .int x1), (2, .int x2), (3, .int x3)] [.int vg40] ig40 ag40 qg40 rg40 (by rfl) ?_
              exact ft_ret mi_k215 (by rfl) (hP vg40 _ _ _ _ hGg40 trivial)
            by_cases w42 : ((a 134).getD x1.toNatClampNeg 0).toInt = 2
            ·
              refine ko_eq (x1 := (79, [(4, .int ((a 134).getD x1.toNatClampNeg 0)), (0, .ref 116), (1, .int x1), (2, .int x2), (3, .int x3)], [.int x3, .int 2, .int x1, .ref 116], (0, 0), ks (ku i 7457 0) a q r)) (by rw [(kj_eq w42 (by decide) : ((a 134).getD x1.toNatClampNeg 0) = 2)]) ?_
              refine ko_callI mi_k215.1 (pc := 79) (ls := [(4, .int ((a 134).getD x1.toNatClampNeg 0)), (0, .ref 116), (1, .int x1), (2, .int x2), (3, .int x3)]) (st := [.int x3, .int 2, .int x1, .ref 116]) (h := ks (ku i 7457 0) a q r) (i := (.invokevirtual 363, 3, 212, 0, 9, 0, 467)) (mi_k215.2 _ _ (by rfl)) (ft_invS mi_pq212 (by rfl)) (cy := mi_c212) mi_pq212 rfl (kc212_116_l12_K2 hJ1.I hJ1.R x1 x3 (oz1536 fi_7455.2 s2 z4.1 z4.2 kn1 kn0) (oz1411 w42) (oz1350 kn0)) (by decide) ?_
              intro vg43 ig43 ag43 qg43 rg43 kg43 hg43
              have hGg43 := kG_call hJ1 kg43 (by decide +kernel)
              refine ft_go mi_k215 1 93 [(4, .int ((a 134).getD x1.toNatClampNeg 0)), (0, .ref 116), (1, .int x1), (2, .int x2), (3, .int x3)] [.int vg43] ig43 ag43 qg43 rg43 (by rfl) ?_
              exact ft_ret mi_k215 (by rfl) (hP vg43 _ _ _ _ hGg43 trivial)
            by_cases w45 : ((a 134).getD x1.toNatClampNeg 0).toInt = 3
            ·
              refine ko_eq (x1 := (79, [(4, .int ((a 134).getD x1.toNatClampNeg 0)), (0, .ref 116), (1, .int x1), (2, .int x2), (3, .int x3)], [.int x3, .int 3, .int x1, .ref 116], (0, 0), ks (ku i 7457 0) a q r)) (by rw [(kj_eq w45 (by decide) : ((a 134).getD x1.toNatClampNeg 0) = 3)]) ?_
              refine ko_callI mi_k215.1 (pc := 79) (ls := [(4, .int ((a 134).getD x1.toNatClampNeg 0)), (0, .ref 116), (1, .int x1), (2, .int x2), (3, .int x3)]) (st := [.int x3, .int 3, .int x1, .ref 116]) (h := ks (ku i 7457 0) a q r) (i := (.invokevirtual 363, 3, 212, 0, 9, 0, 467)) (mi_k215.2 _ _ (by rfl)) (ft_invS mi_pq212 (by rfl)) (cy := mi_c212) mi_pq212 rfl (kc212_116_l13_K3 hJ1.I hJ1.R x1 x3 (oz1536 fi_7455.2 s2 z4.1 z4.2 kn1 kn0) (oz1421 w45) (oz1362 kn0)) (by decide) ?_
              intro vg46 ig46 ag46 qg46 rg46 kg46 hg46
              have hGg46 := kG_call hJ1 kg46 (by decide +kernel)
              refine ft_go mi_k215 1 93 [(4, .int ((a 134).getD x1.toNatClampNeg 0)), (0, .ref 116), (1, .int x1), (2, .int x2), (3, .int x3)] [.int vg46] ig46 ag46 qg46 rg46 (by rfl) ?_
              exact ft_ret mi_k215 (by rfl) (hP vg46 _ _ _ _ hGg46 trivial)
            by_cases w48 : ((a 134).getD x1.toNatClampNeg 0).toInt = 4
            ·
              refine ko_eq (x1 := (79, [(4, .int ((a 134).getD x1.toNatClampNeg 0)), (0, .ref 116), (1, .int x1), (2, .int x2), (3, .int x3)], [.int x3, .int 4, .int x1, .ref 116], (0, 0), ks (ku i 7457 0) a q r)) (by rw [(kj_eq w48 (by decide) : ((a 134).getD x1.toNatClampNeg 0) = 4)]) ?_
              refine ko_callI mi_k215.1 (pc := 79) (ls := [(4, .int ((a 134).getD x1.toNatClampNeg 0)), (0, .ref 116), (1, .int x1), (2, .int x2), (3, .int x3)]) (st := [.int x3, .int 4, .int x1, .ref 116]) (h := ks (ku i 7457 0) a q r) (i := (.invokevirtual 363, 3, 212, 0, 9, 0, 467)) (mi_k215.2 _ _ (by rfl)) (ft_invS mi_pq212 (by rfl)) (cy := mi_c212) mi_pq212 rfl (kc212_116_l14_K4 hJ1.I hJ1.R x1 x3 (oz1536 fi_7455.2 s2 z4.1 z4.2 kn1 kn0) (oz1446 w48) (oz1378 kn0)) (by decide) ?_
              intro vg49 ig49 ag49 qg49 rg49 kg49 hg49
              have hGg49 := kG_call hJ1 kg49 (by decide +kernel)
              refine ft_go mi_k215 1 93 [(4, .int ((a 134).getD x1.toNatClampNeg 0)), (0, .ref 116), (1, .int x1), (2, .int x2), (3, .int x3)] [.int vg49] ig49 ag49 qg49 rg49 (by rfl) ?_
              exact ft_ret mi_k215 (by rfl) (hP vg49 _ _ _ _ hGg49 trivial)
            by_cases w51 : ((a 134).getD x1.toNatClampNeg 0).toInt = 5
            ·
              refine ko_eq (x1 := (79, [(4, .int ((a 134).getD x1.toNatClampNeg 0)), (0, .ref 116), (1, .int x1), (2, .int x2), (3, .int x3)], [.int x3, .int 5, .int x1, .ref 116], (0, 0), ks (ku i 7457 0) a q r)) (by rw [(kj_eq w51 (by decide) : ((a 134).getD x1.toNatClampNeg 0) = 5)]) ?_
              refine ko_callI mi_k215.1 (pc := 79) (ls := [(4, .int ((a 134).getD x1.toNatClampNeg 0)), (0, .ref 116), (1, .int x1), (2, .int x2), (3, .int x3)]) (st := [.int x3, .int 5, .int x1, .ref 116]) (h := ks (ku i 7457 0) a q r) (i := (.invokevirtual 363, 3, 212, 0, 9, 0, 467)) (mi_k215.2 _ _ (by rfl)) (ft_invS mi_pq212 (by rfl)) (cy := mi_c212) mi_pq212 rfl (kc212_116_l15_K5 hJ1.I hJ1.R x1 x3 (oz1536 fi_7455.2 s2 z4.1 z4.2 kn1 kn0) (oz1470 w51) (oz1362 kn0)) (by decide) ?_
              intro vg52 ig52 ag52 qg52 rg52 kg52 hg52
              have hGg52 := kG_call hJ1 kg52 (by decide +kernel)
              refine ft_go mi_k215 1 93 [(4, .int ((a 134).getD x1.toNatClampNeg 0)), (0, .ref 116), (1, .int x1), (2, .int x2), (3, .int x3)] [.int vg52] ig52 ag52 qg52 rg52 (by rfl) ?_
              exact ft_ret mi_k215 (by rfl) (hP vg52 _ _ _ _ hGg52 trivial)
            by_cases w54 : ((a 134).getD x1.toNatClampNeg 0).toInt = 6
            ·
              refine ko_eq (x1 := (79, [(4, .int ((a 134).getD x1.toNatClampNeg 0)), (0, .ref 116), (1, .int x1), (2, .int x2), (3, .int x3)], [.int x3, .int 6, .int x1, .ref 116], (0, 0), ks (ku i 7457 0) a q r)) (by rw [(kj_eq w54 (by decide) : ((a 134).getD x1.toNatClampNeg 0) = 6)]) ?_
              refine ko_callI mi_k215.1 (pc := 79) (ls := [(4, .int ((a 134).getD x1.toNatClampNeg 0)), (0, .ref 116), (1, .int x1), (2, .int x2), (3, .int x3)]) (st := [.int x3, .int 6, .int x1, .ref 116]) (h := ks (ku i 7457 0) a q r) (i := (.invokevirtual 363, 3, 212, 0, 9, 0, 467)) (mi_k215.2 _ _ (by rfl)) (ft_invS mi_pq212 (by rfl)) (cy := mi_c212) mi_pq212 rfl (kc212_116_l16_K6 hJ1.I hJ1.R x1 x3 (oz1536 fi_7455.2 s2 z4.1 z4.2 kn1 kn0) (oz1484 w54) (oz1350 kn0)) (by decide) ?_
              intro vg55 ig55 ag55 qg55 rg55 kg55 hg55
              have hGg55 := kG_call hJ1 kg55 (by decide +kernel)
              refine ft_go mi_k215 1 93 [(4, .int ((a 134).getD x1.toNatClampNeg 0)), (0, .ref 116), (1, .int x1), (2, .int x2), (3, .int x3)] [.int vg55] ig55 ag55 qg55 rg55 (by rfl) ?_
              exact ft_ret mi_k215 (by rfl) (hP vg55 _ _ _ _ hGg55 trivial)
            by_cases w57 : ((a 134).getD x1.toNatClampNeg 0).toInt = 7
            ·
              refine ko_eq (x1 := (79, [(4, .int ((a 134).getD x1.toNatClampNeg 0)), (0, .ref 116), (1, .int x1), (2, .int x2), (3, .int x3)], [.int x3, .int 7, .int x1, .ref 116], (0, 0), ks (ku i 7457 0) a q r)) (by rw [(kj_eq w57 (by decide) : ((a 134).getD x1.toNatClampNeg 0) = 7)]) ?_
              refine ko_callI mi_k215.1 (pc := 79) (ls := [(4, .int ((a 134).getD x1.toNatClampNeg 0)), (0, .ref 116), (1, .int x1), (2, .int x2), (3, .int x3)]) (st := [.int x3, .int 7, .int x1, .ref 116]) (h := ks (ku i 7457 0) a q r) (i := (.invokevirtual 363, 3, 212, 0, 9, 0, 467)) (mi_k215.2 _ _ (by rfl)) (ft_invS mi_pq212 (by rfl)) (cy := mi_c212) mi_pq212 rfl (kc212_116_l17_K7 hJ1.I hJ1.R x1 x3 (oz1536 fi_7455.2 s2 z4.1 z4.2 kn1 kn0) (oz1497 r7.2 w57) (oz1378 kn0)) (by decide) ?_
              intro vg58 ig58 ag58 qg58 rg58 kg58 hg58
              have hGg58 := kG_call hJ1 kg58 (by decide +kernel)
              refine ft_go mi_k215 1 93 [(4, .int ((a 134).getD x1.toNatClampNeg 0)), (0, .ref 116), (1, .int x1), (2, .int x2), (3, .int x3)] [.int vg58] ig58 ag58 qg58 rg58 (by rfl) ?_
              exact ft_ret mi_k215 (by rfl) (hP vg58 _ _ _ _ hGg58 trivial)
            exact (oz1583 r7.1 r7.2 w36 w39 w42 w45 w48 w51 w54 w57).elim
        ·
          have c60 : x2.toInt = (1 : Int32).toInt := kd_neF c; clear c
          refine ft_go mi_k215 4 63 [(4, .int ((a 134).getD x1.toNatClampNeg 0)), (0, .ref 116), (1, .int x1), (2, .int x2), (3, .int x3)] [.int x3, .int ((a 134).getD x1.toNatClampNeg 0), .int x1, .ref 116] (ku i 7457 0) a q r (by rfl) ?_
          by_cases w61 : ((a 134).getD x1.toNatClampNeg 0).toInt = 0
          ·
            refine ko_eq (x1 := (63, [(4, .int ((a 134).getD x1.toNatClampNeg 0)), (0, .ref 116), (1, .int x1), (2, .int x2), (3, .int x3)], [.int x3, .int 0, .int x1, .ref 116], (0, 0), ks (ku i 7457 0) a q r)) (by rw [(kj_eq w61 (by decide) : ((a 134).getD x1.toNatClampNeg 0) = 0)]) ?_
            refine ko_callI mi_k215.1 (pc := 63) (ls := [(4, .int ((a 134).getD x1.toNatClampNeg 0)), (0, .ref 116), (1, .int x1), (2, .int x2), (3, .int x3)]) (st := [.int x3, .int 0, .int x1, .ref 116]) (h := ks (ku i 7457 0) a q r) (i := (.invokevirtual 360, 3, 211, 0, 9, 0, 466)) (mi_k215.2 _ _ (by rfl)) (ft_invS mi_pq211 (by rfl)) (cy := mi_c211) mi_pq211 rfl (kc211_116_l10_K0 hJ1.I hJ1.R x1 x3 (oz1536 fi_7455.2 s2 z4.1 z4.2 kn1 kn0) (oz1348 r7.1 w61) (oz1362 kn0)) (by decide) ?_
            intro vg62 ig62 ag62 qg62 rg62 kg62 hg62
            have hGg62 := kG_call hJ1 kg62 (by decide +kernel)
            refine ft_go mi_k215 1 93 [(4, .int ((a 134).getD x1.toNatClampNeg 0)), (0, .ref 116), (1, .int x1), (2, .int x2), (3, .int x3)] [.int vg62] ig62 ag62 qg62 rg62 (by rfl) ?_
            exact ft_ret mi_k215 (by rfl) (hP vg62 _ _ _ _ hGg62 trivial)
          by_cases w64 : ((a 134).getD x1.toNatClampNeg 0).toInt = 1
          ·
            refine ko_eq (x1 := (63, [(4, .int ((a 134).getD x1.toNatClampNeg 0)), (0, .ref 116), (1, .int x1), (2, .int x2), (3, .int x3)], [.int x3, .int 1, .int x1, .ref 116], (0, 0), ks (ku i 7457 0) a q r)) (by rw [(kj_eq w64 (by decide) : ((a 134).getD x1.toNatClampNeg 0) = 1)]) ?_
            refine ko_callI mi_k215.1 (pc := 63) (ls := [(4, .int ((a 134).getD x1.toNatClampNeg 0)), (0, .ref 116), (1, .int x1), (2, .int x2), (3, .int x3)]) (st := [.int x3, .int 1, .int x1, .ref 116]) (h := ks (ku i 7457 0) a q r) (i := (.invokevirtual 360, 3, 211, 0, 9, 0, 466)) (mi_k215.2 _ _ (by rfl)) (ft_invS mi_pq211 (by rfl)) (cy := mi_c211) mi_pq211 rfl (kc211_116_l11_K1 hJ1.I hJ1.R x1 x3 (oz1536 fi_7455.2 s2 z4.1 z4.2 kn1 kn0) (oz1381 w64) (oz1391 kn0)) (by decide) ?_
            intro vg65 ig65 ag65 qg65 rg65 kg65 hg65
            have hGg65 := kG_call hJ1 kg65 (by decide +kernel)
            refine ft_go mi_k215 1 93 [(4, .int ((a 134).getD x1.toNatClampNeg 0)), (0, .ref 116), (1, .int x1), (2, .int x2), (3, .int x3)] [.int vg65] ig65 ag65 qg65 rg65 (by rfl) ?_
            exact ft_ret mi_k215 (by rfl) (hP vg65 _ _ _ _ hGg65 trivial)
          by_cases w67 : ((a 134).getD x1.toNatClampNeg 0).toInt = 2
          ·
            refine ko_eq (x1 := (63, [(4, .int ((a 134).getD x1.toNatClampNeg 0)), (0, .ref 116), (1, .int x1), (2, .int x2), (3, .int x3)], [.int x3, .int 2, .int x1, .ref 116], (0, 0), ks (ku i 7457 0) a q r)) (by rw [(kj_eq w67 (by decide) : ((a 134).getD x1.toNatClampNeg 0) = 2)]) ?_
            refine ko_callI mi_k215.1 (pc := 63) (ls := [(4, .int ((a 134).getD x1.toNatClampNeg 0)), (0, .ref 116), (1, .int x1), (2, .int x2), (3, .int x3)]) (st := [.int x3, .int 2, .int x1, .ref 116]) (h := ks (ku i 7457 0) a q r) (i := (.invokevirtual 360, 3, 211, 0, 9, 0, 466)) (mi_k215.2 _ _ (by rfl)) (ft_invS mi_pq211 (by rfl)) (cy := mi_c211) mi_pq211 rfl (kc211_116_l12_K2 hJ1.I hJ1.R x1 x3 (oz1536 fi_7455.2 s2 z4.1 z4.2 kn1 kn0) (oz1411 w67) (oz1391 kn0)) (by decide) ?_
            intro vg68 ig68 ag68 qg68 rg68 kg68 hg68
            have hGg68 := kG_call hJ1 kg68 (by decide +kernel)
            refine ft_go mi_k215 1 93 [(4, .int ((a 134).getD x1.toNatClampNeg 0)), (0, .ref 116), (1, .int x1), (2, .int x2), (3, .int x3)] [.int vg68] ig68 ag68 qg68 rg68 (by rfl) ?_
            exact ft_ret mi_k215 (by rfl) (hP vg68 _ _ _ _ hGg68 trivial)
          by_cases w70 : ((a 134).getD x1.toNatClampNeg 0).toInt = 3
          ·
            refine ko_eq (x1 := (63, [(4, .int ((a 134).getD x1.toNatClampNeg 0)), (0, .ref 116), (1, .int x1), (2, .int x2), (3, .int x3)], [.int x3, .int 3, .int x1, .ref 116], (0, 0), ks (ku i 7457 0) a q r)) (by rw [(kj_eq w70 (by decide) : ((a 134).getD x1.toNatClampNeg 0) = 3)]) ?_
            refine ko_callI mi_k215.1 (pc := 63) (ls := [(4, .int ((a 134).getD x1.toNatClampNeg 0)), (0, .ref 116), (1, .int x1), (2, .int x2), (3, .int x3)]) (st := [.int x3, .int 3, .int x1, .ref 116]) (h := ks (ku i 7457 0) a q r) (i := (.invokevirtual 360, 3, 211, 0, 9, 0, 466)) (mi_k215.2 _ _ (by rfl)) (ft_invS mi_pq211 (by rfl)) (cy := mi_c211) mi_pq211 rfl (kc211_116_l13_K3 hJ1.I hJ1.R x1 x3 (oz1536 fi_7455.2 s2 z4.1 z4.2 kn1 kn0) (oz1421 w70) (oz1378 kn0)) (by decide) ?_
            intro vg71 ig71 ag71 qg71 rg71 kg71 hg71
            have hGg71 := kG_call hJ1 kg71 (by decide +kernel)
            refine ft_go mi_k215 1 93 [(4, .int ((a 134).getD x1.toNatClampNeg 0)), (0, .ref 116), (1, .int x1), (2, .int x2), (3, .int x3)] [.int vg71] ig71 ag71 qg71 rg71 (by rfl) ?_
            exact ft_ret mi_k215 (by rfl) (hP vg71 _ _ _ _ hGg71 trivial)
          by_cases w73 : ((a 134).getD x1.toNatClampNeg 0).toInt = 4
          ·
            refine ko_eq (x1 := (63, [(4, .int ((a 134).getD x1.toNatClampNeg 0)), (0, .ref 116), (1, .int x1), (2, .int x2), (3, .int x3)], [.int x3, .int 4, .int x1, .ref 116], (0, 0), ks (ku i 7457 0) a q r)) (by rw [(kj_eq w73 (by decide) : ((a 134).getD x1.toNatClampNeg 0) = 4)]) ?_
            refine ko_callI mi_k215.1 (pc := 63) (ls := [(4, .int ((a 134).getD x1.toNatClampNeg 0)), (0, .ref 116), (1, .int x1), (2, .int x2), (3, .int x3)]) (st := [.int x3, .int 4, .int x1, .ref 116]) (h := ks (ku i 7457 0) a q r) (i := (.invokevirtual 360, 3, 211, 0, 9, 0, 466)) (mi_k215.2 _ _ (by rfl)) (ft_invS mi_pq211 (by rfl)) (cy := mi_c211) mi_pq211 rfl (kc211_116_l14_K4 hJ1.I hJ1.R x1 x3 (oz1536 fi_7455.2 s2 z4.1 z4.2 kn1 kn0) (oz1446 w73) (oz1391 kn0)) (by decide) ?_
            intro vg74 ig74 ag74 qg74 rg74 kg74 hg74
            have hGg74 := kG_call hJ1 kg74 (by decide +kernel)
            refine ft_go mi_k215 1 93 [(4, .int ((a 134).getD x1.toNatClampNeg 0)), (0, .ref 116), (1, .int x1), (2, .int x2), (3, .int x3)] [.int vg74] ig74 ag74 qg74 rg74 (by rfl) ?_
            exact ft_ret mi_k215 (by rfl) (hP vg74 _ _ _ _ hGg74 trivial)
          by_cases w76 : ((a 134).getD x1.toNatClampNeg 0).toInt = 5
          ·
            refine ko_eq (x1 := (63, [(4, .int ((a 134).getD x1.toNatClampNeg 0)), (0, .ref 116), (1, .int x1), (2, .int x2), (3, .int x3)], [.int x3, .int 5, .int x1, .ref 116], (0, 0), ks (ku i 7457 0) a q r)) (by rw [(kj_eq w76 (by decide) : ((a 134).getD x1.toNatClampNeg 0) = 5)]) ?_
            refine ko_callI mi_k215.1 (pc := 63) (ls := [(4, .int ((a 134).getD x1.toNatClampNeg 0)), (0, .ref 116), (1, .int x1), (2, .int x2), (3, .int x3)]) (st := [.int x3, .int 5, .int x1, .ref 116]) (h := ks (ku i 7457 0) a q r) (i := (.invokevirtual 360, 3, 211, 0, 9, 0, 466)) (mi_k215.2 _ _ (by rfl)) (ft_invS mi_pq211 (by rfl)) (cy := mi_c211) mi_pq211 rfl (kc211_116_l15_K5 hJ1.I hJ1.R x1 x3 (oz1536 fi_7455.2 s2 z4.1 z4.2 kn1 kn0) (oz1470 w76) (oz1378 kn0)) (by decide) ?_
            intro vg77 ig77 ag77 qg77 rg77 kg77 hg77
            have hGg77 := kG_call hJ1 kg77 (by decide +kernel)
            refine ft_go mi_k215 1 93 [(4, .int ((a 134).getD x1.toNatClampNeg 0)), (0, .ref 116), (1, .int x1), (2, .int x2), (3, .int x3)] [.int vg77] ig77 ag77 qg77 rg77 (by rfl) ?_
            exact ft_ret mi_k215 (by rfl) (hP vg77 _ _ _ _ hGg77 trivial)
          by_cases w79 : ((a 134).getD x1.toNatClampNeg 0).toInt = 6
          ·
            refine ko_eq (x1 := (63, [(4, .int ((a 134).getD x1.toNatClampNeg 0)), (0, .ref 116), (1, .int x1), (2, .int x2), (3, .int x3)], [.int x3, .int 6, .int x1, .ref 116], (0, 0), ks (ku i 7457 0) a q r)) (by rw [(kj_eq w79 (by decide) : ((a 134).getD x1.toNatClampNeg 0) = 6)]) ?_
            refine ko_callI mi_k215.1 (pc := 63) (ls := [(4, .int ((a 134).getD x1.toNatClampNeg 0)), (0, .ref 116), (1, .int x1), (2, .int x2), (3, .int x3)]) (st := [.int x3, .int 6, .int x1, .ref 116]) (h := ks (ku i 7457 0) a q r) (i := (.invokevirtual 360, 3, 211, 0, 9, 0, 466)) (mi_k215.2 _ _ (by rfl)) (ft_invS mi_pq211 (by rfl)) (cy := mi_c211) mi_pq211 rfl (kc211_116_l16_K6 hJ1.I hJ1.R x1 x3 (oz1536 fi_7455.2 s2 z4.1 z4.2 kn1 kn0) (oz1484 w79) (oz1391 kn0)) (by decide) ?_
            intro vg80 ig80 ag80 qg80 rg80 kg80 hg80
            have hGg80 := kG_call hJ1 kg80 (by decide +kernel)
            refine ft_go mi_k215 1 93 [(4, .int ((a 134).getD x1.toNatClampNeg 0)), (0, .ref 116), (1, .int x1), (2, .int x2), (3, .int x3)] [.int vg80] ig80 ag80 qg80 rg80 (by rfl) ?_
            exact ft_ret mi_k215 (by rfl) (hP vg80 _ _ _ _ hGg80 trivial)
          by_cases w82 : ((a 134).getD x1.toNatClampNeg 0).toInt = 7
          ·
            refine ko_eq (x1 := (63, [(4, .int ((a 134).getD x1.toNatClampNeg 0)), (0, .ref 116), (1, .int x1), (2, .int x2), (3, .int x3)], [.int x3, .int 7, .int x1, .ref 116], (0, 0), ks (ku i 7457 0) a q r)) (by rw [(kj_eq w82 (by decide) : ((a 134).getD x1.toNatClampNeg 0) = 7)]) ?_
            refine ko_callI mi_k215.1 (pc := 63) (ls := [(4, .int ((a 134).getD x1.toNatClampNeg 0)), (0, .ref 116), (1, .int x1), (2, .int x2), (3, .int x3)]) (st := [.int x3, .int 7, .int x1, .ref 116]) (h := ks (ku i 7457 0) a q r) (i := (.invokevirtual 360, 3, 211, 0, 9, 0, 466)) (mi_k215.2 _ _ (by rfl)) (ft_invS mi_pq211 (by rfl)) (cy := mi_c211) mi_pq211 rfl (kc211_116_l17_K7 hJ1.I hJ1.R x1 x3 (oz1536 fi_7455.2 s2 z4.1 z4.2 kn1 kn0) (oz1497 r7.2 w82) (oz1466 kn0)) (by decide) ?_
            intro vg83 ig83 ag83 qg83 rg83 kg83 hg83
            have hGg83 := kG_call hJ1 kg83 (by decide +kernel)
            refine ft_go mi_k215 1 93 [(4, .int ((a 134).getD x1.toNatClampNeg 0)), (0, .ref 116), (1, .int x1), (2, .int x2), (3, .int x3)] [.int vg83] ig83 ag83 qg83 rg83 (by rfl) ?_
            exact ft_ret mi_k215 (by rfl) (hP vg83 _ _ _ _ hGg83 trivial)
          exact (oz1583 r7.1 r7.2 w61 w64 w67 w70 w73 w76 w79 w82).elim
      ·
        have c85 : x2.toInt = (0 : Int32).toInt := kd_neF c; clear c
        refine ft_go mi_k215 4 47 [(4, .int ((a 134).getD x1.toNatClampNeg 0)), (0, .ref 116), (1, .int x1), (2, .int x2), (3, .int x3)] [.int x3, .int ((a 134).getD x1.toNatClampNeg 0), .int x1, .ref 116] (ku i 7457 0) a q r (by rfl) ?_
        by_cases w86 : ((a 134).getD x1.toNatClampNeg 0).toInt = 0
        ·
          refine ko_eq (x1 := (47, [(4, .int ((a 134).getD x1.toNatClampNeg 0)), (0, .ref 116), (1, .int x1), (2, .int x2), (3, .int x3)], [.int x3, .int 0, .int x1, .ref 116], (0, 0), ks (ku i 7457 0) a q r)) (by rw [(kj_eq w86 (by decide) : ((a 134).getD x1.toNatClampNeg 0) = 0)]) ?_
          refine ko_callI mi_k215.1 (pc := 47) (ls := [(4, .int ((a 134).getD x1.toNatClampNeg 0)), (0, .ref 116), (1, .int x1), (2, .int x2), (3, .int x3)]) (st := [.int x3, .int 0, .int x1, .ref 116]) (h := ks (ku i 7457 0) a q r) (i := (.invokevirtual 354, 3, 210, 0, 9, 0, 463)) (mi_k215.2 _ _ (by rfl)) (ft_invS mi_pq210 (by rfl)) (cy := mi_c210) mi_pq210 rfl (kc210_116_l10_K0 hJ1.I hJ1.R x1 x3 (oz1536 fi_7455.2 s2 z4.1 z4.2 kn1 kn0) (oz1348 r7.1 w86) (oz1350 kn0)) (by decide) ?_
          intro vg87 ig87 ag87 qg87 rg87 kg87 hg87
          have hGg87 := kG_call hJ1 kg87 (by decide +kernel)
          refine ft_go mi_k215 1 93 [(4, .int ((a 134).getD x1.toNatClampNeg 0)), (0, .ref 116), (1, .int x1), (2, .int x2), (3, .int x3)] [.int vg87] ig87 ag87 qg87 rg87 (by rfl) ?_
          exact ft_ret mi_k215 (by rfl) (hP vg87 _ _ _ _ hGg87 trivial)
        by_cases w89 : ((a 134).getD x1.toNatClampNeg 0).toInt = 1
        ·
          refine ko_eq (x1 := (47, [(4, .int ((a 134).getD x1.toNatClampNeg 0)), (0, .ref 116), (1, .int x1), (2, .int x2), (3, .int x3)], [.int x3, .int 1, .int x1, .ref 116], (0, 0), ks (ku i 7457 0) a q r)) (by rw [(kj_eq w89 (by decide) : ((a 134).getD x1.toNatClampNeg 0) = 1)]) ?_
          refine ko_callI mi_k215.1 (pc := 47) (ls := [(4, .int ((a 134).getD x1.toNatClampNeg 0)), (0, .ref 116), (1, .int x1), (2, .int x2), (3, .int x3)]) (st := [.int x3, .int 1, .int x1, .ref 116]) (h := ks (ku i 7457 0) a q r) (i := (.invokevirtual 354, 3, 210, 0, 9, 0, 463)) (mi_k215.2 _ _ (by rfl)) (ft_invS mi_pq210 (by rfl)) (cy := mi_c210) mi_pq210 rfl (kc210_116_l11_K1 hJ1.I hJ1.R x1 x3 (oz1536 fi_7455.2 s2 z4.1 z4.2 kn1 kn0) (oz1381 w89) (oz1362 kn0)) (by decide) ?_
          intro vg90 ig90 ag90 qg90 rg90 kg90 hg90
          have hGg90 := kG_call hJ1 kg90 (by decide +kernel)
          refine ft_go mi_k215 1 93 [(4, .int ((a 134).getD x1.toNatClampNeg 0)), (0, .ref 116), (1, .int x1), (2, .int x2), (3, .int x3)] [.int vg90] ig90 ag90 qg90 rg90 (by rfl) ?_
          exact ft_ret mi_k215 (by rfl) (hP vg90 _ _ _ _ hGg90 trivial)
        by_cases w92 : ((a 134).getD x1.toNatClampNeg 0).toInt = 2
        ·
          refine ko_eq (x1 := (47, [(4, .int ((a 134).getD x1.toNatClampNeg 0)), (0, .ref 116), (1, .int x1), (2, .int x2), (3, .int x3)], [.int x3, .int 2, .int x1, .ref 116], (0, 0), ks (ku i 7457 0) a q r)) (by rw [(kj_eq w92 (by decide) : ((a 134).getD x1.toNatClampNeg 0) = 2)]) ?_
          refine ko_callI mi_k215.1 (pc := 47) (ls := [(4, .int ((a 134).getD x1.toNatClampNeg 0)), (0, .ref 116), (1, .int x1), (2, .int x2), (3, .int x3)]) (st := [.int x3, .int 2, .int x1, .ref 116]) (h := ks (ku i 7457 0) a q r) (i := (.invokevirtual 354, 3, 210, 0, 9, 0, 463)) (mi_k215.2 _ _ (by rfl)) (ft_invS mi_pq210 (by rfl)) (cy := mi_c210) mi_pq210 rfl (kc210_116_l12_K2 hJ1.I hJ1.R x1 x3 (oz1536 fi_7455.2 s2 z4.1 z4.2 kn1 kn0) (oz1411 w92) (oz1350 kn0)) (by decide) ?_
          intro vg93 ig93 ag93 qg93 rg93 kg93 hg93
          have hGg93 := kG_call hJ1 kg93 (by decide +kernel)
          refine ft_go mi_k215 1 93 [(4, .int ((a 134).getD x1.toNatClampNeg 0)), (0, .ref 116), (1, .int x1), (2, .int x2), (3, .int x3)] [.int vg93] ig93 ag93 qg93 rg93 (by rfl) ?_
          exact ft_ret mi_k215 (by rfl) (hP vg93 _ _ _ _ hGg93 trivial)
        by_cases w95 : ((a 134).getD x1.toNatClampNeg 0).toInt = 3
        ·
          refine ko_eq (x1 := (47, [(4, .int ((a 134).getD x1.toNatClampNeg 0)), (0, .ref 116), (1, .int x1), (2, .int x2), (3, .int x3)], [.int x3, .int 3, .int x1, .ref 116], (0, 0), ks (ku i 7457 0) a q r)) (by rw [(kj_eq w95 (by decide) : ((a 134).getD x1.toNatClampNeg 0) = 3)]) ?_
          refine ko_callI mi_k215.1 (pc := 47) (ls := [(4, .int ((a 134).getD x1.toNatClampNeg 0)), (0, .ref 116), (1, .int x1), (2, .int x2), (3, .int x3)]) (st := [.int x3, .int 3, .int x1, .ref 116]) (h := ks (ku i 7457 0) a q r) (i := (.invokevirtual 354, 3, 210, 0, 9, 0, 463)) (mi_k215.2 _ _ (by rfl)) (ft_invS mi_pq210 (by rfl)) (cy := mi_c210) mi_pq210 rfl (kc210_116_l13_K3 hJ1.I hJ1.R x1 x3 (oz1536 fi_7455.2 s2 z4.1 z4.2 kn1 kn0) (oz1421 w95) (oz1350 kn0)) (by decide) ?_
          intro vg96 ig96 ag96 qg96 rg96 kg96 hg96
          have hGg96 := kG_call hJ1 kg96 (by decide +kernel)
          refine ft_go mi_k215 1 93 [(4, .int ((a 134).getD x1.toNatClampNeg 0)), (0, .ref 116), (1, .int x1), (2, .int x2), (3, .int x3)] [.int vg96] ig96 ag96 qg96 rg96 (by rfl) ?_
          exact ft_ret mi_k215 (by rfl) (hP vg96 _ _ _ _ hGg96 trivial)
        by_cases w98 : ((a 134).getD x1.toNatClampNeg 0).toInt = 4
        ·
          refine ko_eq (x1 := (47, [(4, .int ((a 134).getD x1.toNatClampNeg 0)), (0, .ref 116), (1, .int x1), (2, .int x2), (3, .int x3)], [.int x3, .int 4, .int x1, .ref 116], (0, 0), ks (ku i 7457 0) a q r)) (by rw [(kj_eq w98 (by decide) : ((a 134).getD x1.toNatClampNeg 0) = 4)]) ?_
          refine ko_callI mi_k215.1 (pc := 47) (ls := [(4, .int ((a 134).getD x1.toNatClampNeg 0)), (0, .ref 116), (1, .int x1), (2, .int x2), (3, .int x3)]) (st := [.int x3, .int 4, .int x1, .ref 116]) (h := ks (ku i 7457 0) a q r) (i := (.invokevirtual 354, 3, 210, 0, 9, 0, 463)) (mi_k215.2 _ _ (by rfl)) (ft_invS mi_pq210 (by rfl)) (cy := mi_c210) mi_pq210 rfl (kc210_116_l14_K4 hJ1.I hJ1.R x1 x3 (oz1536 fi_7455.2 s2 z4.1 z4.2 kn1 kn0) (oz1446 w98) (oz1362 kn0)) (by decide) ?_
          intro vg99 ig99 ag99 qg99 rg99 kg99 hg99
          have hGg99 := kG_call hJ1 kg99 (by decide +kernel)
          refine ft_go mi_k215 1 93 [(4, .int ((a 134).getD x1.toNatClampNeg 0)), (0, .ref 116), (1, .int x1), (2, .int x2), (3, .int x3)] [.int vg99] ig99 ag99 qg99 rg99 (by rfl) ?_
          exact ft_ret mi_k215 (by rfl) (hP vg99 _ _ _ _ hGg99 trivial)
        by_cases w101 : ((a 134).getD x1.toNatClampNeg 0).toInt = 5
        ·
          refine ko_eq (x1 := (47, [(4, .int ((a 134).getD x1.toNatClampNeg 0)), (0, .ref 116), (1, .int x1), (2, .int x2), (3, .int x3)], [.int x3, .int 5, .int x1, .ref 116], (0, 0), ks (ku i 7457 0) a q r)) (by rw [(kj_eq w101 (by decide) : ((a 134).getD x1.toNatClampNeg 0) = 5)]) ?_
          refine ko_callI mi_k215.1 (pc := 47) (ls := [(4, .int ((a 134).getD x1.toNatClampNeg 0)), (0, .ref 116), (1, .int x1), (2, .int x2), (3, .int x3)]) (st := [.int x3, .int 5, .int x1, .ref 116]) (h := ks (ku i 7457 0) a q r) (i := (.invokevirtual 354, 3, 210, 0, 9, 0, 463)) (mi_k215.2 _ _ (by rfl)) (ft_invS mi_pq210 (by rfl)) (cy := mi_c210) mi_pq210 rfl (kc210_116_l15_K5 hJ1.I hJ1.R x1 x3 (oz1536 fi_7455.2 s2 z4.1 z4.2 kn1 kn0) (oz1470 w101) (oz1350 kn0)) (by decide) ?_
          intro vg102 ig102 ag102 qg102 rg102 kg102 hg102
          have hGg102 := kG_call hJ1 kg102 (by decide +kernel)
          refine ft_go mi_k215 1 93 [(4, .int ((a 134).getD x1.toNatClampNeg 0)), (0, .ref 116), (1, .int x1), (2, .int x2), (3, .int x3)] [.int vg102] ig102 ag102 qg102 rg102 (by rfl) ?_
          exact ft_ret mi_k215 (by rfl) (hP vg102 _ _ _ _ hGg102 trivial)
        by_cases w104 : ((a 134).getD x1.toNatClampNeg 0).toInt = 6
        ·
          refine ko_eq (x1 := (47, [(4, .int ((a 134).getD x1.toNatClampNeg 0)), (0, .ref 116), (1, .int x1), (2, .int x2), (3, .int x3)], [.int x3, .int 6, .int x1, .ref 116], (0, 0), ks (ku i 7457 0) a q r)) (by rw [(kj_eq w104 (by decide) : ((a 134).getD x1.toNatClampNeg 0) = 6)]) ?_
          refine ko_callI mi_k215.1 (pc := 47) (ls := [(4, .int ((a 134).getD x1.toNatClampNeg 0)), (0, .ref 116), (1, .int x1), (2, .int x2), (3, .int x3)]) (st := [.int x3, .int 6, .int x1, .ref 116]) (h := ks (ku i 7457 0) a q r) (i := (.invokevirtual 354, 3, 210, 0, 9, 0, 463)) (mi_k215.2 _ _ (by rfl)) (ft_invS mi_pq210 (by rfl)) (cy := mi_c210) mi_pq210 rfl (kc210_116_l16_K6 hJ1.I hJ1.R x1 x3 (oz1536 fi_7455.2 s2 z4.1 z4.2 kn1 kn0) (oz1484 w104) (oz1362 kn0)) (by decide) ?_
          intro vg105 ig105 ag105 qg105 rg105 kg105 hg105
          have hGg105 := kG_call hJ1 kg105 (by decide +kernel)
          refine ft_go mi_k215 1 93 [(4, .int ((a 134).getD x1.toNatClampNeg 0)), (0, .ref 116), (1, .int x1), (2, .int x2), (3, .int x3)] [.int vg105] ig105 ag105 qg105 rg105 (by rfl) ?_
          exact ft_ret mi_k215 (by rfl) (hP vg105 _ _ _ _ hGg105 trivial)
        by_cases w107 : ((a 134).getD x1.toNatClampNeg 0).toInt = 7
        ·
          refine ko_eq (x1 := (47, [(4, .int ((a 134).getD x1.toNatClampNeg 0)), (0, .ref 116), (1, .int x1), (2, .int x2), (3, .int x3)], [.int x3, .int 7, .int x1, .ref 116], (0, 0), ks (ku i 7457 0) a q r)) (by rw [(kj_eq w107 (by decide) : ((a 134).getD x1.toNatClampNeg 0) = 7)]) ?_
          refine ko_callI mi_k215.1 (pc := 47) (ls := [(4, .int ((a 134).getD x1.toNatClampNeg 0)), (0, .ref 116), (1, .int x1), (2, .int x2), (3, .int x3)]) (st := [.int x3, .int 7, .int x1, .ref 116]) (h := ks (ku i 7457 0) a q r) (i := (.invokevirtual 354, 3, 210, 0, 9, 0, 463)) (mi_k215.2 _ _ (by rfl)) (ft_invS mi_pq210 (by rfl)) (cy := mi_c210) mi_pq210 rfl (kc210_116_l17_K7 hJ1.I hJ1.R x1 x3 (oz1536 fi_7455.2 s2 z4.1 z4.2 kn1 kn0) (oz1497 r7.2 w107) (oz1362 kn0)) (by decide) ?_
          intro vg108 ig108 ag108 qg108 rg108 kg108 hg108
          have hGg108 := kG_call hJ1 kg108 (by decide +kernel)
          refine ft_go mi_k215 1 93 [(4, .int ((a 134).getD x1.toNatClampNeg 0)), (0, .ref 116), (1, .int x1), (2, .int x2), (3, .int x3)] [.int vg108] ig108 ag108 qg108 rg108 (by rfl) ?_
          exact ft_ret mi_k215 (by rfl) (hP vg108 _ _ _ _ hGg108 trivial)
        exact (oz1584 r7.1 r7.2 w101 w104 w107 w86 w89 w92 w95 w98).elim
    ·
      subst eg5
      refine ft_go mi_k215 2 29 [(0, .ref 116), (1, .int x1), (2, .int x2), (3, .int x3)] [.int 0] (ku i 7457 0) a q r (by rfl) ?_
      exact ft_ret mi_k215 (by rfl) (hP 0 _ _ _ _ hJ1 trivial)
  ·
    subst eg3
    refine ft_go mi_k215 2 29 [(0, .ref 116), (1, .int x1), (2, .int x2), (3, .int x3)] [.int 0] (ku i 7457 0) a q r (by rfl) ?_
    exact ft_ret mi_k215 (by rfl) (hP 0 _ _ _ _ hJ1 trivial)
