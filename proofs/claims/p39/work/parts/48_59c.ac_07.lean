set_option maxRecDepth 100000 in
theorem ke13_94_l17_l21_K7 {i : Nat → Int32} {a : Nat → List Int32} {q : Nat → List Int64} {r : Nat → Nat} (hI : kI i a q) (hr : kr r) (x1 : Int32) (x4 : Int32) (x5 : Int32) (hp0 : ((0 : Int) ≤ x1.toInt) ∧ (x1.toInt ≤ 49)) (hp1 : ((a 95).getD x1.toNatClampNeg 0).toInt = 7) (hp2 : ((0 : Int) ≤ x5.toInt) ∧ ((x5.toInt + 4) ≤ 39)) (hp3 : ((0 : Int) ≤ (i 6019).toInt) ∧ (((i 6019).toInt + 8) ≤ 900)) : km 11 13 [.ref 94, .int x1, .int 7, .int 1, .int x4, .int x5] (ks i a q r) (kVI yw13_94_l17_l21_K7 i a q r (fun v i1 a1 q1 r1 => ((i1 6019).toInt = ((i 6019).toInt + 8)) ∧ (v = av7_1_7 x1 x4 ∧ trS (a 96) (i 6019) (a1 96) (i1 6019) [80, 10, 20, 1, 50, 11, 20, 1]))) := by
  have hG := kG_self yw13_94_l17_l21_K7 hI hr
  refine km_ofI (q := (mi_h13, mi_c13)) rfl (by decide) (Nat.le_of_ble_eq_true rfl) ?_
  intro P hP
  have r1 : ((0 : Int) ≤ ((a 95).getD x1.toNatClampNeg 0).toInt) ∧ (((a 95).getD x1.toNatClampNeg 0).toInt ≤ 7) := hG.I.2.2.1 95 (x1.toNatClampNeg)
  have fi_6019 : ((0 : Int) ≤ (i 6019).toInt) ∧ ((i 6019).toInt ≤ 1000) := hG.I.1 6019
  refine ft_go mi_k13 2 4 [(0, .ref 94), (1, .int x1), (2, .int 7), (3, .int 1), (4, .int x4), (5, .int x5)] [.int 40, .int x5] i a q r (by rfl) ?_
  refine ft_if mi_k13 (decide (x5 < 40)) 9 7 [(0, .ref 94), (1, .int x1), (2, .int 7), (3, .int 1), (4, .int x4), (5, .int x5)] [] (by rfl) (fun c => ?_) (fun c => ?_)
  ·
    have c2 : x5.toInt < (40 : Int32).toInt := kd_lt c; clear c
    refine ft_go mi_k13 2 11 [(0, .ref 94), (1, .int x1), (2, .int 7), (3, .int 1), (4, .int x4), (5, .int x5)] [.int 1, .int 7] i a q r (by rfl) ?_
    refine ko_callPI mi_k13.1 (pc := 11) (ls := [(0, .ref 94), (1, .int x1), (2, .int 7), (3, .int 1), (4, .int x4), (5, .int x5)]) (st := [.int 1, .int 7]) (h := ks i a q r) (i := (.invokestatic 39, 3, 11, 0, 9, 0, 298)) (mi_k13.2 _ _ (by rfl)) (ft_invS mi_pq11 (by rfl)) (cy := mi_c11) mi_pq11 rfl (kc11_l07_l11 hG.I hG.R ) (by decide) ?_
    intro vg3 hg3
    have z4 : vg3.toInt = 7 := hg3
    have evvg3 := kj_eq (or282 z4) (by decide : (7 : Int32).toInt = 7)
    subst evvg3
    refine ft_go mi_k13 5 23 [(6, .int 7), (0, .ref 94), (1, .int x1), (2, .int 7), (3, .int 1), (4, .int x4), (5, .int x5)] [.int (7 * 4), .ref (mi_RO + 3)] i a q r (by rfl) ?_
    refine ko_eq (x1 := (23, [(6, .int 7), (0, .ref 94), (1, .int x1), (2, .int 7), (3, .int 1), (4, .int x4), (5, .int x5)], [.int 28, .ref (mi_RO + 3)], (0, 0), ks i a q r)) (by rw [(by decide : (7 * 4 : Int32) = 28)]) ?_
    refine ft_go mi_k13 2 25 [(6, .int 7), (0, .ref 94), (1, .int x1), (2, .int 7), (3, .int 1), (4, .int x4), (5, .int x5)] [.int (28 + 1), .ref (mi_RO + 3)] i a q r (by rfl) ?_
    refine ko_eq (x1 := (25, [(6, .int 7), (0, .ref 94), (1, .int x1), (2, .int 7), (3, .int 1), (4, .int x4), (5, .int x5)], [.int 29, .ref (mi_RO + 3)], (0, 0), ks i a q r)) (by rw [(by decide : (28 + 1 : Int32) = 29)]) ?_
    refine ko_iaro2 mi_k13.1 (l := [1, 10, 11, 2, 20, 0, 0, 0, 0, 30, 0, 0, 0, 41, 40, 0, 0, 0, 50, 0, 0, 0, 0, 60, 70, 0, 0, 0, 0, 80, 0, 81]) (n := 32) (c := 32) (ax := (0, 0, 0, 0, 0)) (mi_k13.2 _ _ (by rfl)) (by rfl) (by rfl) rfl rfl (or280 kor29) (or281 kor29) ?_
    have r5 : ((0 : Int) ≤ (([1, 10, 11, 2, 20, 0, 0, 0, 0, 30, 0, 0, 0, 41, 40, 0, 0, 0, 50, 0, 0, 0, 0, 60, 70, 0, 0, 0, 0, 80, 0, 81] : List Int32).getD (29 : Int32).toNatClampNeg 0).toInt) ∧ ((([1, 10, 11, 2, 20, 0, 0, 0, 0, 30, 0, 0, 0, 41, 40, 0, 0, 0, 50, 0, 0, 0, 0, 60, 70, 0, 0, 0, 0, 80, 0, 81] : List Int32).getD (29 : Int32).toNatClampNeg 0).toInt ≤ 81) := kro_rng (lo := 0) (hi := 81) (by decide) ((29 : Int32).toNatClampNeg)
    refine ko_eq (x1 := (26, [(6, .int 7), (0, .ref 94), (1, .int x1), (2, .int 7), (3, .int 1), (4, .int x4), (5, .int x5)], [.int 80], (0, 0), ks i a q r)) (by rw [(by decide : (([1, 10, 11, 2, 20, 0, 0, 0, 0, 30, 0, 0, 0, 41, 40, 0, 0, 0, 50, 0, 0, 0, 0, 60, 70, 0, 0, 0, 0, 80, 0, 81] : List Int32).getD (29 : Int32).toNatClampNeg 0) = 80)]) ?_
    refine ft_go mi_k13 4 34 [(7, .int 80), (6, .int 7), (0, .ref 94), (1, .int x1), (2, .int 7), (3, .int 1), (4, .int x4), (5, .int x5)] [.int 24, .int (i 6019)] i a q r (by rfl) ?_
    refine ft_if mi_k13 (decide (24 ≤ (i 6019))) 48 37 [(7, .int 80), (6, .int 7), (0, .ref 94), (1, .int x1), (2, .int 7), (3, .int 1), (4, .int x4), (5, .int x5)] [] (by rfl) (fun c => ?_) (fun c => ?_)
    ·
      have c6 : (24 : Int32).toInt ≤ (i 6019).toInt := kd_le c; clear c
      have s7 : ((i 6019) + 1).toInt = (i 6019).toInt + (1 : Int32).toInt := kd_add (or6 c6 kor24 kor1) (or7 fi_6019.2 kor1)
      have hJ8 := kG_i hG 6019 rfl (v := ((i 6019) + 1)) ⟨(or8 c6 s7 kor24 kor1), (or247 hp3.2 s7 kor1)⟩
      refine ft_go mi_k13 12 83 [(7, .int 80), (6, .int 7), (0, .ref 94), (1, .int x1), (2, .int 7), (3, .int 1), (4, .int x4), (5, .int x5)] [.int 7, .ref (mi_RO + 4), .int x1, .ref 94] (ku i 6019 ((i 6019) + 1)) a q r (by rfl) ?_
      refine ko_iaro2 mi_k13.1 (l := [(-1), 0, 0, 2, 1, 3, 0, 4]) (n := 8) (c := 8) (ax := (0, 0, 0, 0, 0)) (mi_k13.2 _ _ (by rfl)) (by rfl) (by rfl) rfl rfl (or184 kor7) (or279 kor7) ?_
      have r9 : ((-1 : Int) ≤ (([(-1), 0, 0, 2, 1, 3, 0, 4] : List Int32).getD (7 : Int32).toNatClampNeg 0).toInt) ∧ ((([(-1), 0, 0, 2, 1, 3, 0, 4] : List Int32).getD (7 : Int32).toNatClampNeg 0).toInt ≤ 4) := kro_rng (lo := -1) (hi := 4) (by decide) ((7 : Int32).toNatClampNeg)
      refine ko_eq (x1 := (84, [(7, .int 80), (6, .int 7), (0, .ref 94), (1, .int x1), (2, .int 7), (3, .int 1), (4, .int x4), (5, .int x5)], [.int 4, .int x1, .ref 94], (0, 0), ks (ku i 6019 ((i 6019) + 1)) a q r)) (by rw [(by decide : (([(-1), 0, 0, 2, 1, 3, 0, 4] : List Int32).getD (7 : Int32).toNatClampNeg 0) = 4)]) ?_
      have s10 : (x5 + 1).toInt = x5.toInt + (1 : Int32).toInt := kd_add (or16 hp2.1 kor1) (or187 hp2.2 kor1)
      refine ft_go mi_k13 8 105 [(7, .int 80), (6, .int 7), (0, .ref 94), (1, .int x1), (2, .int 7), (3, .int 1), (4, .int x4), (5, .int x5)] [.int (x5 + 1), .int x4, .int 1, .int 4, .int x1, .ref 94] (ku i 6019 ((i 6019) + 1)) a q r (by rfl) ?_
      refine ko_callI mi_k13.1 (pc := 105) (ls := [(7, .int 80), (6, .int 7), (0, .ref 94), (1, .int x1), (2, .int 7), (3, .int 1), (4, .int x4), (5, .int x5)]) (st := [.int (x5 + 1), .int x4, .int 1, .int 4, .int x1, .ref 94]) (h := ks (ku i 6019 ((i 6019) + 1)) a q r) (i := (.invokevirtual 35, 3, 13, 0, 9, 0, 297)) (mi_k13.2 _ _ (by rfl)) (ft_invS mi_pq13 (by rfl)) (cy := mi_c13) mi_pq13 rfl (ke13_94_l14_l21_K7 hJ8.I hJ8.R x1 x4 (x5 + 1) (or25 hp0.1 hp0.2) (or97 hp1 r1.2) (or193 hp2.1 hp2.2 s10 kor1) (or283 c6 hp3.2 s7 kor24 kor1)) (by decide) ?_
      intro vg11 ig11 ag11 qg11 rg11 kg11 hg11
      have hGg11 := kG_call hJ8 kg11 (by decide +kernel)
      obtain ⟨hg11, og11⟩ := hg11
      have fig11_6019 : ((0 : Int) ≤ (ig11 6019).toInt) ∧ ((ig11 6019).toInt ≤ 1000) := hGg11.I.1 6019
      have z12 : (ig11 6019).toInt = (((i 6019) + 1).toInt + 3) := hg11
      have q13 : vg11 = av0_1_7 x1 x4 := og11.1
      have t14 : trS (a 96) ((i 6019) + 1) (ag11 96) (ig11 6019) [10, 20, 1] := og11.2
      refine ft_go mi_k13 9 242 [(8, .int vg11), (7, .int 80), (6, .int 7), (0, .ref 94), (1, .int x1), (2, .int 7), (3, .int 1), (4, .int x4), (5, .int x5)] [.int x1, .ref 95, .int x1, .ref 94, .int vg11] ig11 ag11 qg11 rg11 (by rfl) ?_
      refine ko_iald3 mi_k13.1 (n := 50) (c := 50) (ax := (0, 0, 0, 0, 0)) (mi_k13.2 _ _ (by rfl)) (by rfl) (ksG95 _ _ _ _) (hGg11.I.2.1 95) rfl (or14 hp0.1) (or20 hp0.2) ?_
      have r15 : ((0 : Int) ≤ ((ag11 95).getD x1.toNatClampNeg 0).toInt) ∧ (((ag11 95).getD x1.toNatClampNeg 0).toInt ≤ 7) := hGg11.I.2.2.1 95 (x1.toNatClampNeg)
      have u16 : ((ag11 95).getD x1.toNatClampNeg 0).toInt = ((a 95).getD x1.toNatClampNeg 0).toInt := congrArg (fun z : List Int32 => (z.getD x1.toNatClampNeg 0).toInt) (kg11.fa 95 rfl)
      refine ko_eq (x1 := (243, [(8, .int vg11), (7, .int 80), (6, .int 7), (0, .ref 94), (1, .int x1), (2, .int 7), (3, .int 1), (4, .int x4), (5, .int x5)], [.int 7, .int x1, .ref 94, .int vg11], (0, 0), ks ig11 ag11 qg11 rg11)) (by rw [(kj_eq (or96 hp1 r15.2 u16) (by decide) : ((ag11 95).getD x1.toNatClampNeg 0) = 7)]) ?_
      refine ft_go mi_k13 5 249 [(8, .int vg11), (7, .int 80), (6, .int 7), (0, .ref 94), (1, .int x1), (2, .int 7), (3, .int 1), (4, .int x4), (5, .int x5)] [.int (x5 + 1), .int 2, .int 2, .int 7, .int x1, .ref 94, .int vg11] ig11 ag11 qg11 rg11 (by rfl) ?_
      refine ko_callI mi_k13.1 (pc := 249) (ls := [(8, .int vg11), (7, .int 80), (6, .int 7), (0, .ref 94), (1, .int x1), (2, .int 7), (3, .int 1), (4, .int x4), (5, .int x5)]) (st := [.int (x5 + 1), .int 2, .int 2, .int 7, .int x1, .ref 94, .int vg11]) (h := ks ig11 ag11 qg11 rg11) (i := (.invokevirtual 35, 3, 13, 0, 9, 0, 297)) (mi_k13.2 _ _ (by rfl)) (ft_invS mi_pq13 (by rfl)) (cy := mi_c13) mi_pq13 rfl (ke13_94_l17_l22_K7 hGg11.I hGg11.R x1 2 (x5 + 1) (or25 hp0.1 hp0.2) (or96 hp1 r15.2 u16) (or193 hp2.1 hp2.2 s10 kor1) (or287 c6 hp3.2 s7 z12 kor24 kor1)) (by decide) ?_
      intro vg17 ig17 ag17 qg17 rg17 kg17 hg17
      have hGg17 := kG_call hGg11 kg17 (by decide +kernel)
      obtain ⟨hg17, og17⟩ := hg17
      have fig17_6019 : ((0 : Int) ≤ (ig17 6019).toInt) ∧ ((ig17 6019).toInt ≤ 1000) := hGg17.I.1 6019
      have z18 : (ig17 6019).toInt = ((ig11 6019).toInt + 4) := hg17
      have q19 : vg17 = av4_2_7 x1 (2 : Int32) := og17.1
      have t20 : trS (ag11 96) (ig11 6019) (ag17 96) (ig17 6019) [50, 11, 20, 1] := og17.2
      have b21 : ((-2147483648 : Int) ≤ vg11.toInt) ∧ (vg11.toInt ≤ 2147483647) := kd_bd vg11
      have b22 : ((-2147483648 : Int) ≤ vg17.toInt) ∧ (vg17.toInt ≤ 2147483647) := kd_bd vg17
      refine ft_go mi_k13 1 253 [(8, .int vg11), (7, .int 80), (6, .int 7), (0, .ref 94), (1, .int x1), (2, .int 7), (3, .int 1), (4, .int x4), (5, .int x5)] [.int (vg11 + vg17)] ig17 ag17 qg17 rg17 (by rfl) ?_
      exact ft_ret mi_k13 (by rfl) (hP (vg11 + vg17) _ _ _ _ hGg17 ⟨(or288 s7 z12 z18 kor1), ⟨(show (vg11 + vg17) = av7_1_7 x1 x4 from by rw [q13, q19]; rfl), (tr_app (es := [80, 10, 20, 1, 50, 11, 20, 1]) (tr_app (es := [80, 10, 20, 1]) (show trS (a 96) (i 6019) (a 96) ((i 6019) + 1) [80] from tr_no (or11 c6 kor24) (or13 c6 kor24) rfl (or12 s7 kor1)) t14 (by rfl)) t20 (by rfl))⟩⟩)
    ·
      have c23 : (i 6019).toInt < (24 : Int32).toInt := kd_leF c; clear c
      refine ft_go mi_k13 5 47 [(7, .int 80), (6, .int 7), (0, .ref 94), (1, .int x1), (2, .int 7), (3, .int 1), (4, .int x4), (5, .int x5)] [.int 80, .int (i 6019), .ref 96] i a q r (by rfl) ?_
      refine ko_iast3 mi_k13.1 (n := 24) (c := 24) (ax := (0, 0, 0, 0, 0)) (mi_k13.2 _ _ (by rfl)) (by rfl) (ksG96 _ _ _ _) (ksA96 _ _ _ _) (hG.I.2.1 96) rfl (or14 fi_6019.1) (or15 c23 kor24) ?_
      intro a24 ea24 fa24
      have hJ24 := kG_a3 hG 96 rfl ea24 fa24 (kd_bd _)
      have s25 : ((i 6019) + 1).toInt = (i 6019).toInt + (1 : Int32).toInt := kd_add (or16 fi_6019.1 kor1) (or7 fi_6019.2 kor1)
      have hJ26 := kG_i hJ24 6019 rfl (v := ((i 6019) + 1)) ⟨(or17 fi_6019.1 s25 kor1), (or247 hp3.2 s25 kor1)⟩
      refine ft_go mi_k13 12 83 [(7, .int 80), (6, .int 7), (0, .ref 94), (1, .int x1), (2, .int 7), (3, .int 1), (4, .int x4), (5, .int x5)] [.int 7, .ref (mi_RO + 4), .int x1, .ref 94] (ku i 6019 ((i 6019) + 1)) a24 q r (by rfl) ?_
      refine ko_iaro2 mi_k13.1 (l := [(-1), 0, 0, 2, 1, 3, 0, 4]) (n := 8) (c := 8) (ax := (0, 0, 0, 0, 0)) (mi_k13.2 _ _ (by rfl)) (by rfl) (by rfl) rfl rfl (or184 kor7) (or279 kor7) ?_
      have r27 : ((-1 : Int) ≤ (([(-1), 0, 0, 2, 1, 3, 0, 4] : List Int32).getD (7 : Int32).toNatClampNeg 0).toInt) ∧ ((([(-1), 0, 0, 2, 1, 3, 0, 4] : List Int32).getD (7 : Int32).toNatClampNeg 0).toInt ≤ 4) := kro_rng (lo := -1) (hi := 4) (by decide) ((7 : Int32).toNatClampNeg)
      refine ko_eq (x1 := (84, [(7, .int 80), (6, .int 7), (0, .ref 94), (1, .int x1), (2, .int 7), (3, .int 1), (4, .int x4), (5, .int x5)], [.int 4, .int x1, .ref 94], (0, 0), ks (ku i 6019 ((i 6019) + 1)) a24 q r)) (by rw [(by decide : (([(-1), 0, 0, 2, 1, 3, 0, 4] : List Int32).getD (7 : Int32).toNatClampNeg 0) = 4)]) ?_
      have s28 : (x5 + 1).toInt = x5.toInt + (1 : Int32).toInt := kd_add (or16 hp2.1 kor1) (or187 hp2.2 kor1)
      refine ft_go mi_k13 8 105 [(7, .int 80), (6, .int 7), (0, .ref 94), (1, .int x1), (2, .int 7), (3, .int 1), (4, .int x4), (5, .int x5)] [.int (x5 + 1), .int x4, .int 1, .int 4, .int x1, .ref 94] (ku i 6019 ((i 6019) + 1)) a24 q r (by rfl) ?_
      have r29 : ((0 : Int) ≤ ((a24 95).getD x1.toNatClampNeg 0).toInt) ∧ (((a24 95).getD x1.toNatClampNeg 0).toInt ≤ 7) := hJ26.I.2.2.1 95 (x1.toNatClampNeg)
      have u30 : ((a24 95).getD x1.toNatClampNeg 0).toInt = ((a 95).getD x1.toNatClampNeg 0).toInt := congrArg (fun z : List Int32 => (z.getD x1.toNatClampNeg 0).toInt) (fa24 95 (by decide))
      refine ko_callI mi_k13.1 (pc := 105) (ls := [(7, .int 80), (6, .int 7), (0, .ref 94), (1, .int x1), (2, .int 7), (3, .int 1), (4, .int x4), (5, .int x5)]) (st := [.int (x5 + 1), .int x4, .int 1, .int 4, .int x1, .ref 94]) (h := ks (ku i 6019 ((i 6019) + 1)) a24 q r) (i := (.invokevirtual 35, 3, 13, 0, 9, 0, 297)) (mi_k13.2 _ _ (by rfl)) (ft_invS mi_pq13 (by rfl)) (cy := mi_c13) mi_pq13 rfl (ke13_94_l14_l21_K7 hJ26.I hJ26.R x1 x4 (x5 + 1) (or25 hp0.1 hp0.2) (or96 hp1 r29.2 u30) (or193 hp2.1 hp2.2 s28 kor1) (or289 fi_6019.1 hp3.2 s25 kor1)) (by decide) ?_
      intro vg31 ig31 ag31 qg31 rg31 kg31 hg31
      have hGg31 := kG_call hJ26 kg31 (by decide +kernel)
      obtain ⟨hg31, og31⟩ := hg31
      have fig31_6019 : ((0 : Int) ≤ (ig31 6019).toInt) ∧ ((ig31 6019).toInt ≤ 1000) := hGg31.I.1 6019
      have z32 : (ig31 6019).toInt = (((i 6019) + 1).toInt + 3) := hg31
      have q33 : vg31 = av0_1_7 x1 x4 := og31.1
      have t34 : trS (a24 96) ((i 6019) + 1) (ag31 96) (ig31 6019) [10, 20, 1] := og31.2
      refine ft_go mi_k13 9 242 [(8, .int vg31), (7, .int 80), (6, .int 7), (0, .ref 94), (1, .int x1), (2, .int 7), (3, .int 1), (4, .int x4), (5, .int x5)] [.int x1, .ref 95, .int x1, .ref 94, .int vg31] ig31 ag31 qg31 rg31 (by rfl) ?_
      refine ko_iald3 mi_k13.1 (n := 50) (c := 50) (ax := (0, 0, 0, 0, 0)) (mi_k13.2 _ _ (by rfl)) (by rfl) (ksG95 _ _ _ _) (hGg31.I.2.1 95) rfl (or14 hp0.1) (or20 hp0.2) ?_
      have r35 : ((0 : Int) ≤ ((ag31 95).getD x1.toNatClampNeg 0).toInt) ∧ (((ag31 95).getD x1.toNatClampNeg 0).toInt ≤ 7) := hGg31.I.2.2.1 95 (x1.toNatClampNeg)
      have u36 : ((ag31 95).getD x1.toNatClampNeg 0).toInt = ((a24 95).getD x1.toNatClampNeg 0).toInt := congrArg (fun z : List Int32 => (z.getD x1.toNatClampNeg 0).toInt) (kg31.fa 95 rfl)
      refine ko_eq (x1 := (243, [(8, .int vg31), (7, .int 80), (6, .int 7), (0, .ref 94), (1, .int x1), (2, .int 7), (3, .int 1), (4, .int x4), (5, .int x5)], [.int 7, .int x1, .ref 94, .int vg31], (0, 0), ks ig31 ag31 qg31 rg31)) (by rw [(kj_eq (or286 hp1 r35.2 u30 u36) (by decide) : ((ag31 95).getD x1.toNatClampNeg 0) = 7)]) ?_
      refine ft_go mi_k13 5 249 [(8, .int vg31), (7, .int 80), (6, .int 7), (0, .ref 94), (1, .int x1), (2, .int 7), (3, .int 1), (4, .int x4), (5, .int x5)] [.int (x5 + 1), .int 2, .int 2, .int 7, .int x1, .ref 94, .int vg31] ig31 ag31 qg31 rg31 (by rfl) ?_
      refine ko_callI mi_k13.1 (pc := 249) (ls := [(8, .int vg31), (7, .int 80), (6, .int 7), (0, .ref 94), (1, .int x1), (2, .int 7), (3, .int 1), (4, .int x4), (5, .int x5)]) (st := [.int (x5 + 1), .int 2, .int 2, .int 7, .int x1, .ref 94, .int vg31]) (h := ks ig31 ag31 qg31 rg31) (i := (.invokevirtual 35, 3, 13, 0, 9, 0, 297)) (mi_k13.2 _ _ (by rfl)) (ft_invS mi_pq13 (by rfl)) (cy := mi_c13) mi_pq13 rfl (ke13_94_l17_l22_K7 hGg31.I hGg31.R x1 2 (x5 + 1) (or25 hp0.1 hp0.2) (or286 hp1 r35.2 u30 u36) (or193 hp2.1 hp2.2 s28 kor1) (or290 fig31_6019.1 hp3.2 s25 z32 kor1)) (by decide) ?_
      intro vg37 ig37 ag37 qg37 rg37 kg37 hg37
      have hGg37 := kG_call hGg31 kg37 (by decide +kernel)
      obtain ⟨hg37, og37⟩ := hg37
      have fig37_6019 : ((0 : Int) ≤ (ig37 6019).toInt) ∧ ((ig37 6019).toInt ≤ 1000) := hGg37.I.1 6019
      have z38 : (ig37 6019).toInt = ((ig31 6019).toInt + 4) := hg37
      have q39 : vg37 = av4_2_7 x1 (2 : Int32) := og37.1
      have t40 : trS (ag31 96) (ig31 6019) (ag37 96) (ig37 6019) [50, 11, 20, 1] := og37.2
      have b41 : ((-2147483648 : Int) ≤ vg31.toInt) ∧ (vg31.toInt ≤ 2147483647) := kd_bd vg31
      have b42 : ((-2147483648 : Int) ≤ vg37.toInt) ∧ (vg37.toInt ≤ 2147483647) := kd_bd vg37
      refine ft_go mi_k13 1 253 [(8, .int vg31), (7, .int 80), (6, .int 7), (0, .ref 94), (1, .int x1), (2, .int 7), (3, .int 1), (4, .int x4), (5, .int x5)] [.int (vg31 + vg37)] ig37 ag37 qg37 rg37 (by rfl) ?_
      exact ft_ret mi_k13 (by rfl) (hP (vg31 + vg37) _ _ _ _ hGg37 ⟨(or288 s25 z32 z38 kor1), ⟨(show (vg31 + vg37) = av7_1_7 x1 x4 from by rw [q33, q39]; rfl), (tr_app (es := [80, 10, 20, 1, 50, 11, 20, 1]) (tr_app (es := [80, 10, 20, 1]) (show trS (a 96) (i 6019) (a24 96) ((i 6019) + 1) [80] from tr_st (or18 fi_6019.1) (or15 c23 kor24) (kset_o ea24 rfl) (or12 s25 kor1)) t34 (by rfl)) t40 (by rfl))⟩⟩)
  ·
    have c43 : (40 : Int32).toInt ≤ x5.toInt := kd_ltF c; clear c
    exact (or197 c43 hp2.2 kor40).elim
def yw14_94_l13_K7 : kW := ([6019], [96], [], [])
set_option maxRecDepth 100000 in
theorem ke14_94_l13_K7 {i : Nat → Int32} {a : Nat → List Int32} {q : Nat → List Int64} {r : Nat → Nat} (hI : kI i a q) (hr : kr r) (x1 : Int32) (x3 : Int32) (x4 : Int32) (hp0 : ((0 : Int) ≤ x1.toInt) ∧ (x1.toInt ≤ 49)) (hp1 : ((a 95).getD x1.toNatClampNeg 0).toInt = 7) (hp2 : ((0 : Int) ≤ x4.toInt) ∧ ((x4.toInt + 4) ≤ 39)) (hp3 : ((0 : Int) ≤ (i 6019).toInt) ∧ (((i 6019).toInt + 12) ≤ 900)) : km 13 14 [.ref 94, .int x1, .int 3, .int x3, .int x4] (ks i a q r) (kVI yw14_94_l13_K7 i a q r (fun v i1 a1 q1 r1 => ((i1 6019).toInt = ((i 6019).toInt + 12)) ∧ (v = av0_3_7 x1 x3 ∧ trS (a 96) (i 6019) (a1 96) (i1 6019) [80, 10, 20, 1, 50, 11, 20, 1, 50, 11, 20, 1]))) := by
  have hG := kG_self yw14_94_l13_K7 hI hr
  refine km_ofI (q := (mi_h14, mi_c14)) rfl (by decide) (Nat.le_of_ble_eq_true rfl) ?_
  intro P hP
  have r1 : ((0 : Int) ≤ ((a 95).getD x1.toNatClampNeg 0).toInt) ∧ (((a 95).getD x1.toNatClampNeg 0).toInt ≤ 7) := hG.I.2.2.1 95 (x1.toNatClampNeg)
  have fi_6019 : ((0 : Int) ≤ (i 6019).toInt) ∧ ((i 6019).toInt ≤ 1000) := hG.I.1 6019
  refine ft_go mi_k14 3 5 [(0, .ref 94), (1, .int x1), (2, .int 3), (3, .int x3), (4, .int x4)] [.int x1, .ref 95] i a q r (by rfl) ?_
  refine ko_iald3 mi_k14.1 (n := 50) (c := 50) (ax := (0, 0, 0, 0, 0)) (mi_k14.2 _ _ (by rfl)) (by rfl) (ksG95 _ _ _ _) (hG.I.2.1 95) rfl (or14 hp0.1) (or20 hp0.2) ?_
  refine ko_eq (x1 := (6, [(0, .ref 94), (1, .int x1), (2, .int 3), (3, .int x3), (4, .int x4)], [.int 7], (0, 0), ks i a q r)) (by rw [(kj_eq (or97 hp1 r1.2) (by decide) : ((a 95).getD x1.toNatClampNeg 0) = 7)]) ?_
  refine ft_go mi_k14 9 66 [(5, .int 7), (0, .ref 94), (1, .int x1), (2, .int 3), (3, .int x3), (4, .int x4)] [.int x4, .int x3, .int 1, .int 7, .int x1, .ref 94] i a q r (by rfl) ?_
  refine ko_callI mi_k14.1 (pc := 66) (ls := [(5, .int 7), (0, .ref 94), (1, .int x1), (2, .int 3), (3, .int x3), (4, .int x4)]) (st := [.int x4, .int x3, .int 1, .int 7, .int x1, .ref 94]) (h := ks i a q r) (i := (.invokevirtual 35, 3, 13, 0, 9, 0, 297)) (mi_k14.2 _ _ (by rfl)) (ft_invS mi_pq13 (by rfl)) (cy := mi_c13) mi_pq13 rfl (ke13_94_l17_l21_K7 hG.I hG.R x1 x3 x4 (or25 hp0.1 hp0.2) (or97 hp1 r1.2) (or220 hp2.1 hp2.2) (or295 fi_6019.1 hp3.2)) (by decide) ?_
  intro vg2 ig2 ag2 qg2 rg2 kg2 hg2
  have hGg2 := kG_call hG kg2 (by decide +kernel)
  obtain ⟨hg2, og2⟩ := hg2
  have fig2_6019 : ((0 : Int) ≤ (ig2 6019).toInt) ∧ ((ig2 6019).toInt ≤ 1000) := hGg2.I.1 6019
  have z3 : (ig2 6019).toInt = ((i 6019).toInt + 8) := hg2
  have q4 : vg2 = av7_1_7 x1 x3 := og2.1
  have t5 : trS (a 96) (i 6019) (ag2 96) (ig2 6019) [80, 10, 20, 1, 50, 11, 20, 1] := og2.2
  refine ft_go mi_k14 8 81 [(6, .int vg2), (5, .int 7), (0, .ref 94), (1, .int x1), (2, .int 3), (3, .int x3), (4, .int x4)] [.int x4, .int 1, .int 2, .int 7, .int x1, .ref 94, .int vg2] ig2 ag2 qg2 rg2 (by rfl) ?_
  have r6 : ((0 : Int) ≤ ((ag2 95).getD x1.toNatClampNeg 0).toInt) ∧ (((ag2 95).getD x1.toNatClampNeg 0).toInt ≤ 7) := hGg2.I.2.2.1 95 (x1.toNatClampNeg)
  have u7 : ((ag2 95).getD x1.toNatClampNeg 0).toInt = ((a 95).getD x1.toNatClampNeg 0).toInt := congrArg (fun z : List Int32 => (z.getD x1.toNatClampNeg 0).toInt) (kg2.fa 95 rfl)
  refine ko_callI mi_k14.1 (pc := 81) (ls := [(6, .int vg2), (5, .int 7), (0, .ref 94), (1, .int x1), (2, .int 3), (3, .int x3), (4, .int x4)]) (st := [.int x4, .int 1, .int 2, .int 7, .int x1, .ref 94, .int vg2]) (h := ks ig2 ag2 qg2 rg2) (i := (.invokevirtual 35, 3, 13, 0, 9, 0, 297)) (mi_k14.2 _ _ (by rfl)) (ft_invS mi_pq13 (by rfl)) (cy := mi_c13) mi_pq13 rfl (ke13_94_l17_l22_K7 hGg2.I hGg2.R x1 1 x4 (or25 hp0.1 hp0.2) (or96 hp1 r6.2 u7) (or296 hp2.1 hp2.2) (or297 fig2_6019.1 hp3.2 z3)) (by decide) ?_
  intro vg8 ig8 ag8 qg8 rg8 kg8 hg8
  have hGg8 := kG_call hGg2 kg8 (by decide +kernel)
  obtain ⟨hg8, og8⟩ := hg8
  have fig8_6019 : ((0 : Int) ≤ (ig8 6019).toInt) ∧ ((ig8 6019).toInt ≤ 1000) := hGg8.I.1 6019
  have z9 : (ig8 6019).toInt = ((ig2 6019).toInt + 4) := hg8
  have q10 : vg8 = av4_2_7 x1 (1 : Int32) := og8.1
  have t11 : trS (ag2 96) (ig2 6019) (ag8 96) (ig8 6019) [50, 11, 20, 1] := og8.2
  have b12 : ((-2147483648 : Int) ≤ vg2.toInt) ∧ (vg2.toInt ≤ 2147483647) := kd_bd vg2
  have b13 : ((-2147483648 : Int) ≤ vg8.toInt) ∧ (vg8.toInt ≤ 2147483647) := kd_bd vg8
  refine ft_go mi_k14 1 85 [(6, .int vg2), (5, .int 7), (0, .ref 94), (1, .int x1), (2, .int 3), (3, .int x3), (4, .int x4)] [.int (vg2 - vg8)] ig8 ag8 qg8 rg8 (by rfl) ?_
  exact ft_ret mi_k14 (by rfl) (hP (vg2 - vg8) _ _ _ _ hGg8 ⟨(or298 z3 z9), ⟨(show (vg2 - vg8) = av0_3_7 x1 x3 from by rw [q4, q10]; rfl), (tr_app (es := [80, 10, 20, 1, 50, 11, 20, 1, 50, 11, 20, 1]) t5 t11 (by rfl))⟩⟩)
def yw13_94_l14_l23_K7 : kW := ([6019], [96], [], [])
set_option maxRecDepth 100000 in
theorem ke13_94_l14_l23_K7 {i : Nat → Int32} {a : Nat → List Int32} {q : Nat → List Int64} {r : Nat → Nat} (hI : kI i a q) (hr : kr r) (x1 : Int32) (x4 : Int32) (x5 : Int32) (hp0 : ((0 : Int) ≤ x1.toInt) ∧ (x1.toInt ≤ 49)) (hp1 : ((a 95).getD x1.toNatClampNeg 0).toInt = 7) (hp2 : ((0 : Int) ≤ x5.toInt) ∧ ((x5.toInt + 5) ≤ 39)) (hp3 : ((0 : Int) ≤ (i 6019).toInt) ∧ (((i 6019).toInt + 13) ≤ 900)) : km 15 13 [.ref 94, .int x1, .int 4, .int 3, .int x4, .int x5] (ks i a q r) (kVI yw13_94_l14_l23_K7 i a q r (fun v i1 a1 q1 r1 => ((i1 6019).toInt = ((i 6019).toInt + 13)) ∧ (v = av0_3_7 x1 x4 ∧ trS (a 96) (i 6019) (a1 96) (i1 6019) [2, 80, 10, 20, 1, 50, 11, 20, 1, 50, 11, 20, 1]))) := by
  have hG := kG_self yw13_94_l14_l23_K7 hI hr
  refine km_ofI (q := (mi_h13, mi_c13)) rfl (by decide) (Nat.le_of_ble_eq_true rfl) ?_
  intro P hP
  have r1 : ((0 : Int) ≤ ((a 95).getD x1.toNatClampNeg 0).toInt) ∧ (((a 95).getD x1.toNatClampNeg 0).toInt ≤ 7) := hG.I.2.2.1 95 (x1.toNatClampNeg)
  have fi_6019 : ((0 : Int) ≤ (i 6019).toInt) ∧ ((i 6019).toInt ≤ 1000) := hG.I.1 6019
  refine ft_go mi_k13 2 4 [(0, .ref 94), (1, .int x1), (2, .int 4), (3, .int 3), (4, .int x4), (5, .int x5)] [.int 40, .int x5] i a q r (by rfl) ?_
  refine ft_if mi_k13 (decide (x5 < 40)) 9 7 [(0, .ref 94), (1, .int x1), (2, .int 4), (3, .int 3), (4, .int x4), (5, .int x5)] [] (by rfl) (fun c => ?_) (fun c => ?_)
  ·
    have c2 : x5.toInt < (40 : Int32).toInt := kd_lt c; clear c
    refine ft_go mi_k13 2 11 [(0, .ref 94), (1, .int x1), (2, .int 4), (3, .int 3), (4, .int x4), (5, .int x5)] [.int 3, .int 4] i a q r (by rfl) ?_
    refine ko_callPI mi_k13.1 (pc := 11) (ls := [(0, .ref 94), (1, .int x1), (2, .int 4), (3, .int 3), (4, .int x4), (5, .int x5)]) (st := [.int 3, .int 4]) (h := ks i a q r) (i := (.invokestatic 39, 3, 11, 0, 9, 0, 298)) (mi_k13.2 _ _ (by rfl)) (ft_invS mi_pq11 (by rfl)) (cy := mi_c11) mi_pq11 rfl (kc11_l04_l13 hG.I hG.R ) (by decide) ?_
    intro vg3 hg3
    have z4 : vg3.toInt = 0 := hg3
    have evvg3 := kj_eq (or37 z4) (by decide : (0 : Int32).toInt = 0)
    subst evvg3
    refine ft_go mi_k13 5 23 [(6, .int 0), (0, .ref 94), (1, .int x1), (2, .int 4), (3, .int 3), (4, .int x4), (5, .int x5)] [.int (0 * 4), .ref (mi_RO + 3)] i a q r (by rfl) ?_
    refine ko_eq (x1 := (23, [(6, .int 0), (0, .ref 94), (1, .int x1), (2, .int 4), (3, .int 3), (4, .int x4), (5, .int x5)], [.int 0, .ref (mi_RO + 3)], (0, 0), ks i a q r)) (by rw [(by decide : (0 * 4 : Int32) = 0)]) ?_
    refine ft_go mi_k13 2 25 [(6, .int 0), (0, .ref 94), (1, .int x1), (2, .int 4), (3, .int 3), (4, .int x4), (5, .int x5)] [.int (0 + 3), .ref (mi_RO + 3)] i a q r (by rfl) ?_
    refine ko_eq (x1 := (25, [(6, .int 0), (0, .ref 94), (1, .int x1), (2, .int 4), (3, .int 3), (4, .int x4), (5, .int x5)], [.int 3, .ref (mi_RO + 3)], (0, 0), ks i a q r)) (by rw [(by decide : (0 + 3 : Int32) = 3)]) ?_
    refine ko_iaro2 mi_k13.1 (l := [1, 10, 11, 2, 20, 0, 0, 0, 0, 30, 0, 0, 0, 41, 40, 0, 0, 0, 50, 0, 0, 0, 0, 60, 70, 0, 0, 0, 0, 80, 0, 81]) (n := 32) (c := 32) (ax := (0, 0, 0, 0, 0)) (mi_k13.2 _ _ (by rfl)) (by rfl) (by rfl) rfl rfl (or155 kor3) (or156 kor3) ?_
    have r5 : ((0 : Int) ≤ (([1, 10, 11, 2, 20, 0, 0, 0, 0, 30, 0, 0, 0, 41, 40, 0, 0, 0, 50, 0, 0, 0, 0, 60, 70, 0, 0, 0, 0, 80, 0, 81] : List Int32).getD (3 : Int32).toNatClampNeg 0).toInt) ∧ ((([1, 10, 11, 2, 20, 0, 0, 0, 0, 30, 0, 0, 0, 41, 40, 0, 0, 0, 50, 0, 0, 0, 0, 60, 70, 0, 0, 0, 0, 80, 0, 81] : List Int32).getD (3 : Int32).toNatClampNeg 0).toInt ≤ 81) := kro_rng (lo := 0) (hi := 81) (by decide) ((3 : Int32).toNatClampNeg)
    refine ko_eq (x1 := (26, [(6, .int 0), (0, .ref 94), (1, .int x1), (2, .int 4), (3, .int 3), (4, .int x4), (5, .int x5)], [.int 2], (0, 0), ks i a q r)) (by rw [(by decide : (([1, 10, 11, 2, 20, 0, 0, 0, 0, 30, 0, 0, 0, 41, 40, 0, 0, 0, 50, 0, 0, 0, 0, 60, 70, 0, 0, 0, 0, 80, 0, 81] : List Int32).getD (3 : Int32).toNatClampNeg 0) = 2)]) ?_
    refine ft_go mi_k13 4 34 [(7, .int 2), (6, .int 0), (0, .ref 94), (1, .int x1), (2, .int 4), (3, .int 3), (4, .int x4), (5, .int x5)] [.int 24, .int (i 6019)] i a q r (by rfl) ?_
    refine ft_if mi_k13 (decide (24 ≤ (i 6019))) 48 37 [(7, .int 2), (6, .int 0), (0, .ref 94), (1, .int x1), (2, .int 4), (3, .int 3), (4, .int x4), (5, .int x5)] [] (by rfl) (fun c => ?_) (fun c => ?_)
    ·
      have c6 : (24 : Int32).toInt ≤ (i 6019).toInt := kd_le c; clear c
      have s7 : ((i 6019) + 1).toInt = (i 6019).toInt + (1 : Int32).toInt := kd_add (or6 c6 kor24 kor1) (or7 fi_6019.2 kor1)
      have hJ8 := kG_i hG 6019 rfl (v := ((i 6019) + 1)) ⟨(or8 c6 s7 kor24 kor1), (or294 hp3.2 s7 kor1)⟩
      have s9 : (x5 + 1).toInt = x5.toInt + (1 : Int32).toInt := kd_add (or16 hp2.1 kor1) (or219 hp2.2 kor1)
      refine ft_go mi_k13 15 72 [(7, .int 2), (6, .int 0), (0, .ref 94), (1, .int x1), (2, .int 4), (3, .int 3), (4, .int x4), (5, .int x5)] [.int (x5 + 1), .int x4, .int 3, .int x1, .ref 94] (ku i 6019 ((i 6019) + 1)) a q r (by rfl) ?_
      refine ko_callI mi_k13.1 (pc := 72) (ls := [(7, .int 2), (6, .int 0), (0, .ref 94), (1, .int x1), (2, .int 4), (3, .int 3), (4, .int x4), (5, .int x5)]) (st := [.int (x5 + 1), .int x4, .int 3, .int x1, .ref 94]) (h := ks (ku i 6019 ((i 6019) + 1)) a q r) (i := (.invokevirtual 43, 3, 14, 0, 9, 0, 301)) (mi_k13.2 _ _ (by rfl)) (ft_invS mi_pq14 (by rfl)) (cy := mi_c14) mi_pq14 rfl (ke14_94_l13_K7 hJ8.I hJ8.R x1 x4 (x5 + 1) (or25 hp0.1 hp0.2) (or97 hp1 r1.2) (or225 hp2.1 hp2.2 s9 kor1) (or299 c6 hp3.2 s7 kor24 kor1)) (by decide) ?_
      intro vg10 ig10 ag10 qg10 rg10 kg10 hg10
      have hGg10 := kG_call hJ8 kg10 (by decide +kernel)
      obtain ⟨hg10, og10⟩ := hg10
      have fig10_6019 : ((0 : Int) ≤ (ig10 6019).toInt) ∧ ((ig10 6019).toInt ≤ 1000) := hGg10.I.1 6019
      have z11 : (ig10 6019).toInt = (((i 6019) + 1).toInt + 12) := hg10
      have q12 : vg10 = av0_3_7 x1 x4 := og10.1
      have t13 : trS (a 96) ((i 6019) + 1) (ag10 96) (ig10 6019) [80, 10, 20, 1, 50, 11, 20, 1, 50, 11, 20, 1] := og10.2
      exact ft_ret mi_k13 (by rfl) (hP vg10 _ _ _ _ hGg10 ⟨(or300 s7 z11 kor1), ⟨(show vg10 = av0_3_7 x1 x4 from congrArg (fun z0_ => z0_) q12), (tr_app (es := [2, 80, 10, 20, 1, 50, 11, 20, 1, 50, 11, 20, 1]) (show trS (a 96) (i 6019) (a 96) ((i 6019) + 1) [2] from tr_no (or11 c6 kor24) (or13 c6 kor24) rfl (or12 s7 kor1)) t13 (by rfl))⟩⟩)
    ·
      have c14 : (i 6019).toInt < (24 : Int32).toInt := kd_leF c; clear c
      refine ft_go mi_k13 5 47 [(7, .int 2), (6, .int 0), (0, .ref 94), (1, .int x1), (2, .int 4), (3, .int 3), (4, .int x4), (5, .int x5)] [.int 2, .int (i 6019), .ref 96] i a q r (by rfl) ?_
      refine ko_iast3 mi_k13.1 (n := 24) (c := 24) (ax := (0, 0, 0, 0, 0)) (mi_k13.2 _ _ (by rfl)) (by rfl) (ksG96 _ _ _ _) (ksA96 _ _ _ _) (hG.I.2.1 96) rfl (or14 fi_6019.1) (or15 c14 kor24) ?_
      intro a15 ea15 fa15
      have hJ15 := kG_a3 hG 96 rfl ea15 fa15 (kd_bd _)
      have s16 : ((i 6019) + 1).toInt = (i 6019).toInt + (1 : Int32).toInt := kd_add (or16 fi_6019.1 kor1) (or7 fi_6019.2 kor1)
      have hJ17 := kG_i hJ15 6019 rfl (v := ((i 6019) + 1)) ⟨(or17 fi_6019.1 s16 kor1), (or294 hp3.2 s16 kor1)⟩
      have s18 : (x5 + 1).toInt = x5.toInt + (1 : Int32).toInt := kd_add (or16 hp2.1 kor1) (or219 hp2.2 kor1)
      refine ft_go mi_k13 15 72 [(7, .int 2), (6, .int 0), (0, .ref 94), (1, .int x1), (2, .int 4), (3, .int 3), (4, .int x4), (5, .int x5)] [.int (x5 + 1), .int x4, .int 3, .int x1, .ref 94] (ku i 6019 ((i 6019) + 1)) a15 q r (by rfl) ?_
      have r19 : ((0 : Int) ≤ ((a15 95).getD x1.toNatClampNeg 0).toInt) ∧ (((a15 95).getD x1.toNatClampNeg 0).toInt ≤ 7) := hJ17.I.2.2.1 95 (x1.toNatClampNeg)
      have u20 : ((a15 95).getD x1.toNatClampNeg 0).toInt = ((a 95).getD x1.toNatClampNeg 0).toInt := congrArg (fun z : List Int32 => (z.getD x1.toNatClampNeg 0).toInt) (fa15 95 (by decide))
      refine ko_callI mi_k13.1 (pc := 72) (ls := [(7, .int 2), (6, .int 0), (0, .ref 94), (1, .int x1), (2, .int 4), (3, .int 3), (4, .int x4), (5, .int x5)]) (st := [.int (x5 + 1), .int x4, .int 3, .int x1, .ref 94]) (h := ks (ku i 6019 ((i 6019) + 1)) a15 q r) (i := (.invokevirtual 43, 3, 14, 0, 9, 0, 301)) (mi_k13.2 _ _ (by rfl)) (ft_invS mi_pq14 (by rfl)) (cy := mi_c14) mi_pq14 rfl (ke14_94_l13_K7 hJ17.I hJ17.R x1 x4 (x5 + 1) (or25 hp0.1 hp0.2) (or96 hp1 r19.2 u20) (or225 hp2.1 hp2.2 s18 kor1) (or301 fi_6019.1 hp3.2 s16 kor1)) (by decide) ?_
      intro vg21 ig21 ag21 qg21 rg21 kg21 hg21
      have hGg21 := kG_call hJ17 kg21 (by decide +kernel)
      obtain ⟨hg21, og21⟩ := hg21
      have fig21_6019 : ((0 : Int) ≤ (ig21 6019).toInt) ∧ ((ig21 6019).toInt ≤ 1000) := hGg21.I.1 6019
      have z22 : (ig21 6019).toInt = (((i 6019) + 1).toInt + 12) := hg21
      have q23 : vg21 = av0_3_7 x1 x4 := og21.1
      have t24 : trS (a15 96) ((i 6019) + 1) (ag21 96) (ig21 6019) [80, 10, 20, 1, 50, 11, 20, 1, 50, 11, 20, 1] := og21.2
      exact ft_ret mi_k13 (by rfl) (hP vg21 _ _ _ _ hGg21 ⟨(or300 s16 z22 kor1), ⟨(show vg21 = av0_3_7 x1 x4 from congrArg (fun z0_ => z0_) q23), (tr_app (es := [2, 80, 10, 20, 1, 50, 11, 20, 1, 50, 11, 20, 1]) (show trS (a 96) (i 6019) (a15 96) ((i 6019) + 1) [2] from tr_st (or18 fi_6019.1) (or15 c14 kor24) (kset_o ea15 rfl) (or12 s16 kor1)) t24 (by rfl))⟩⟩)
  ·
    have c25 : (40 : Int32).toInt ≤ x5.toInt := kd_ltF c; clear c
    exact (or229 c25 hp2.2 kor40).elim
def yw13_94_l17_l23_K7 : kW := ([6019], [96], [], [])
set_option maxRecDepth 100000 in
theorem ke13_94_l17_l23_K7 {i : Nat → Int32} {a : Nat → List Int32} {q : Nat → List Int64} {r : Nat → Nat} (hI : kI i a q) (hr : kr r) (x1 : Int32) (x4 : Int32) (x5 : Int32) (hp0 : ((0 : Int) ≤ x1.toInt) ∧ (x1.toInt ≤ 49)) (hp1 : ((a 95).getD x1.toNatClampNeg 0).toInt = 7) (hp2 : ((0 : Int) ≤ x5.toInt) ∧ ((x5.toInt + 6) ≤ 39)) (hp3 : ((0 : Int) ≤ (i 6019).toInt) ∧ (((i 6019).toInt + 14) ≤ 900)) : km 17 13 [.ref 94, .int x1, .int 7, .int 3, .int x4, .int x5] (ks i a q r) (kVI yw13_94_l17_l23_K7 i a q r (fun v i1 a1 q1 r1 => ((i1 6019).toInt = ((i 6019).toInt + 14)) ∧ (v = av7_3_7 x1 x4 ∧ trS (a 96) (i 6019) (a1 96) (i1 6019) [81, 2, 80, 10, 20, 1, 50, 11, 20, 1, 50, 11, 20, 1]))) := by
  have hG := kG_self yw13_94_l17_l23_K7 hI hr
  refine km_ofI (q := (mi_h13, mi_c13)) rfl (by decide) (Nat.le_of_ble_eq_true rfl) ?_
  intro P hP
  have r1 : ((0 : Int) ≤ ((a 95).getD x1.toNatClampNeg 0).toInt) ∧ (((a 95).getD x1.toNatClampNeg 0).toInt ≤ 7) := hG.I.2.2.1 95 (x1.toNatClampNeg)
  have fi_6019 : ((0 : Int) ≤ (i 6019).toInt) ∧ ((i 6019).toInt ≤ 1000) := hG.I.1 6019
  refine ft_go mi_k13 2 4 [(0, .ref 94), (1, .int x1), (2, .int 7), (3, .int 3), (4, .int x4), (5, .int x5)] [.int 40, .int x5] i a q r (by rfl) ?_
  refine ft_if mi_k13 (decide (x5 < 40)) 9 7 [(0, .ref 94), (1, .int x1), (2, .int 7), (3, .int 3), (4, .int x4), (5, .int x5)] [] (by rfl) (fun c => ?_) (fun c => ?_)
  ·
    have c2 : x5.toInt < (40 : Int32).toInt := kd_lt c; clear c
    refine ft_go mi_k13 2 11 [(0, .ref 94), (1, .int x1), (2, .int 7), (3, .int 3), (4, .int x4), (5, .int x5)] [.int 3, .int 7] i a q r (by rfl) ?_
    refine ko_callPI mi_k13.1 (pc := 11) (ls := [(0, .ref 94), (1, .int x1), (2, .int 7), (3, .int 3), (4, .int x4), (5, .int x5)]) (st := [.int 3, .int 7]) (h := ks i a q r) (i := (.invokestatic 39, 3, 11, 0, 9, 0, 298)) (mi_k13.2 _ _ (by rfl)) (ft_invS mi_pq11 (by rfl)) (cy := mi_c11) mi_pq11 rfl (kc11_l07_l13 hG.I hG.R ) (by decide) ?_
    intro vg3 hg3
    have z4 : vg3.toInt = 7 := hg3
    have evvg3 := kj_eq (or282 z4) (by decide : (7 : Int32).toInt = 7)
    subst evvg3
    refine ft_go mi_k13 5 23 [(6, .int 7), (0, .ref 94), (1, .int x1), (2, .int 7), (3, .int 3), (4, .int x4), (5, .int x5)] [.int (7 * 4), .ref (mi_RO + 3)] i a q r (by rfl) ?_
    refine ko_eq (x1 := (23, [(6, .int 7), (0, .ref 94), (1, .int x1), (2, .int 7), (3, .int 3), (4, .int x4), (5, .int x5)], [.int 28, .ref (mi_RO + 3)], (0, 0), ks i a q r)) (by rw [(by decide : (7 * 4 : Int32) = 28)]) ?_
    refine ft_go mi_k13 2 25 [(6, .int 7), (0, .ref 94), (1, .int x1), (2, .int 7), (3, .int 3), (4, .int x4), (5, .int x5)] [.int (28 + 3), .ref (mi_RO + 3)] i a q r (by rfl) ?_
    refine ko_eq (x1 := (25, [(6, .int 7), (0, .ref 94), (1, .int x1), (2, .int 7), (3, .int 3), (4, .int x4), (5, .int x5)], [.int 31, .ref (mi_RO + 3)], (0, 0), ks i a q r)) (by rw [(by decide : (28 + 3 : Int32) = 31)]) ?_
    refine ko_iaro2 mi_k13.1 (l := [1, 10, 11, 2, 20, 0, 0, 0, 0, 30, 0, 0, 0, 41, 40, 0, 0, 0, 50, 0, 0, 0, 0, 60, 70, 0, 0, 0, 0, 80, 0, 81]) (n := 32) (c := 32) (ax := (0, 0, 0, 0, 0)) (mi_k13.2 _ _ (by rfl)) (by rfl) (by rfl) rfl rfl (or291 kor31) (or292 kor31) ?_
    have r5 : ((0 : Int) ≤ (([1, 10, 11, 2, 20, 0, 0, 0, 0, 30, 0, 0, 0, 41, 40, 0, 0, 0, 50, 0, 0, 0, 0, 60, 70, 0, 0, 0, 0, 80, 0, 81] : List Int32).getD (31 : Int32).toNatClampNeg 0).toInt) ∧ ((([1, 10, 11, 2, 20, 0, 0, 0, 0, 30, 0, 0, 0, 41, 40, 0, 0, 0, 50, 0, 0, 0, 0, 60, 70, 0, 0, 0, 0, 80, 0, 81] : List Int32).getD (31 : Int32).toNatClampNeg 0).toInt ≤ 81) := kro_rng (lo := 0) (hi := 81) (by decide) ((31 : Int32).toNatClampNeg)
    refine ko_eq (x1 := (26, [(6, .int 7), (0, .ref 94), (1, .int x1), (2, .int 7), (3, .int 3), (4, .int x4), (5, .int x5)], [.int 81], (0, 0), ks i a q r)) (by rw [(by decide : (([1, 10, 11, 2, 20, 0, 0, 0, 0, 30, 0, 0, 0, 41, 40, 0, 0, 0, 50, 0, 0, 0, 0, 60, 70, 0, 0, 0, 0, 80, 0, 81] : List Int32).getD (31 : Int32).toNatClampNeg 0) = 81)]) ?_
    refine ft_go mi_k13 4 34 [(7, .int 81), (6, .int 7), (0, .ref 94), (1, .int x1), (2, .int 7), (3, .int 3), (4, .int x4), (5, .int x5)] [.int 24, .int (i 6019)] i a q r (by rfl) ?_
    refine ft_if mi_k13 (decide (24 ≤ (i 6019))) 48 37 [(7, .int 81), (6, .int 7), (0, .ref 94), (1, .int x1), (2, .int 7), (3, .int 3), (4, .int x4), (5, .int x5)] [] (by rfl) (fun c => ?_) (fun c => ?_)
    ·
      have c6 : (24 : Int32).toInt ≤ (i 6019).toInt := kd_le c; clear c
      have s7 : ((i 6019) + 1).toInt = (i 6019).toInt + (1 : Int32).toInt := kd_add (or6 c6 kor24 kor1) (or7 fi_6019.2 kor1)
      have hJ8 := kG_i hG 6019 rfl (v := ((i 6019) + 1)) ⟨(or8 c6 s7 kor24 kor1), (or293 hp3.2 s7 kor1)⟩
      refine ft_go mi_k13 12 83 [(7, .int 81), (6, .int 7), (0, .ref 94), (1, .int x1), (2, .int 7), (3, .int 3), (4, .int x4), (5, .int x5)] [.int 7, .ref (mi_RO + 4), .int x1, .ref 94] (ku i 6019 ((i 6019) + 1)) a q r (by rfl) ?_
      refine ko_iaro2 mi_k13.1 (l := [(-1), 0, 0, 2, 1, 3, 0, 4]) (n := 8) (c := 8) (ax := (0, 0, 0, 0, 0)) (mi_k13.2 _ _ (by rfl)) (by rfl) (by rfl) rfl rfl (or184 kor7) (or279 kor7) ?_
      have r9 : ((-1 : Int) ≤ (([(-1), 0, 0, 2, 1, 3, 0, 4] : List Int32).getD (7 : Int32).toNatClampNeg 0).toInt) ∧ ((([(-1), 0, 0, 2, 1, 3, 0, 4] : List Int32).getD (7 : Int32).toNatClampNeg 0).toInt ≤ 4) := kro_rng (lo := -1) (hi := 4) (by decide) ((7 : Int32).toNatClampNeg)
      refine ko_eq (x1 := (84, [(7, .int 81), (6, .int 7), (0, .ref 94), (1, .int x1), (2, .int 7), (3, .int 3), (4, .int x4), (5, .int x5)], [.int 4, .int x1, .ref 94], (0, 0), ks (ku i 6019 ((i 6019) + 1)) a q r)) (by rw [(by decide : (([(-1), 0, 0, 2, 1, 3, 0, 4] : List Int32).getD (7 : Int32).toNatClampNeg 0) = 4)]) ?_
      have s10 : (x5 + 1).toInt = x5.toInt + (1 : Int32).toInt := kd_add (or16 hp2.1 kor1) (or264 hp2.2 kor1)
      refine ft_go mi_k13 8 105 [(7, .int 81), (6, .int 7), (0, .ref 94), (1, .int x1), (2, .int 7), (3, .int 3), (4, .int x4), (5, .int x5)] [.int (x5 + 1), .int x4, .int 3, .int 4, .int x1, .ref 94] (ku i 6019 ((i 6019) + 1)) a q r (by rfl) ?_
      refine ko_callI mi_k13.1 (pc := 105) (ls := [(7, .int 81), (6, .int 7), (0, .ref 94), (1, .int x1), (2, .int 7), (3, .int 3), (4, .int x4), (5, .int x5)]) (st := [.int (x5 + 1), .int x4, .int 3, .int 4, .int x1, .ref 94]) (h := ks (ku i 6019 ((i 6019) + 1)) a q r) (i := (.invokevirtual 35, 3, 13, 0, 9, 0, 297)) (mi_k13.2 _ _ (by rfl)) (ft_invS mi_pq13 (by rfl)) (cy := mi_c13) mi_pq13 rfl (ke13_94_l14_l23_K7 hJ8.I hJ8.R x1 x4 (x5 + 1) (or25 hp0.1 hp0.2) (or97 hp1 r1.2) (or265 hp2.1 hp2.2 s10 kor1) (or302 c6 hp3.2 s7 kor24 kor1)) (by decide) ?_
      intro vg11 ig11 ag11 qg11 rg11 kg11 hg11
      have hGg11 := kG_call hJ8 kg11 (by decide +kernel)
      obtain ⟨hg11, og11⟩ := hg11
      have fig11_6019 : ((0 : Int) ≤ (ig11 6019).toInt) ∧ ((ig11 6019).toInt ≤ 1000) := hGg11.I.1 6019
      have z12 : (ig11 6019).toInt = (((i 6019) + 1).toInt + 13) := hg11
      have q13 : vg11 = av0_3_7 x1 x4 := og11.1
      have t14 : trS (a 96) ((i 6019) + 1) (ag11 96) (ig11 6019) [2, 80, 10, 20, 1, 50, 11, 20, 1, 50, 11, 20, 1] := og11.2
      have b15 : ((-2147483648 : Int) ≤ vg11.toInt) ∧ (vg11.toInt ≤ 2147483647) := kd_bd vg11
      refine ft_go mi_k13 6 258 [(8, .int vg11), (7, .int 81), (6, .int 7), (0, .ref 94), (1, .int x1), (2, .int 7), (3, .int 3), (4, .int x4), (5, .int x5)] [.int (vg11 - 1)] ig11 ag11 qg11 rg11 (by rfl) ?_
      exact ft_ret mi_k13 (by rfl) (hP (vg11 - 1) _ _ _ _ hGg11 ⟨(or303 s7 z12 kor1), ⟨(show (vg11 - 1) = av7_3_7 x1 x4 from congrArg (fun z0_ => (z0_ - 1)) q13), (tr_app (es := [81, 2, 80, 10, 20, 1, 50, 11, 20, 1, 50, 11, 20, 1]) (show trS (a 96) (i 6019) (a 96) ((i 6019) + 1) [81] from tr_no (or11 c6 kor24) (or13 c6 kor24) rfl (or12 s7 kor1)) t14 (by rfl))⟩⟩)
    ·
      have c16 : (i 6019).toInt < (24 : Int32).toInt := kd_leF c; clear c
      refine ft_go mi_k13 5 47 [(7, .int 81), (6, .int 7), (0, .ref 94), (1, .int x1), (2, .int 7), (3, .int 3), (4, .int x4), (5, .int x5)] [.int 81, .int (i 6019), .ref 96] i a q r (by rfl) ?_
      refine ko_iast3 mi_k13.1 (n := 24) (c := 24) (ax := (0, 0, 0, 0, 0)) (mi_k13.2 _ _ (by rfl)) (by rfl) (ksG96 _ _ _ _) (ksA96 _ _ _ _) (hG.I.2.1 96) rfl (or14 fi_6019.1) (or15 c16 kor24) ?_
      intro a17 ea17 fa17
      have hJ17 := kG_a3 hG 96 rfl ea17 fa17 (kd_bd _)
      have s18 : ((i 6019) + 1).toInt = (i 6019).toInt + (1 : Int32).toInt := kd_add (or16 fi_6019.1 kor1) (or7 fi_6019.2 kor1)
      have hJ19 := kG_i hJ17 6019 rfl (v := ((i 6019) + 1)) ⟨(or17 fi_6019.1 s18 kor1), (or293 hp3.2 s18 kor1)⟩
      refine ft_go mi_k13 12 83 [(7, .int 81), (6, .int 7), (0, .ref 94), (1, .int x1), (2, .int 7), (3, .int 3), (4, .int x4), (5, .int x5)] [.int 7, .ref (mi_RO + 4), .int x1, .ref 94] (ku i 6019 ((i 6019) + 1)) a17 q r (by rfl) ?_
      refine ko_iaro2 mi_k13.1 (l := [(-1), 0, 0, 2, 1, 3, 0, 4]) (n := 8) (c := 8) (ax := (0, 0, 0, 0, 0)) (mi_k13.2 _ _ (by rfl)) (by rfl) (by rfl) rfl rfl (or184 kor7) (or279 kor7) ?_
      have r20 : ((-1 : Int) ≤ (([(-1), 0, 0, 2, 1, 3, 0, 4] : List Int32).getD (7 : Int32).toNatClampNeg 0).toInt) ∧ ((([(-1), 0, 0, 2, 1, 3, 0, 4] : List Int32).getD (7 : Int32).toNatClampNeg 0).toInt ≤ 4) := kro_rng (lo := -1) (hi := 4) (by decide) ((7 : Int32).toNatClampNeg)
      refine ko_eq (x1 := (84, [(7, .int 81), (6, .int 7), (0, .ref 94), (1, .int x1), (2, .int 7), (3, .int 3), (4, .int x4), (5, .int x5)], [.int 4, .int x1, .ref 94], (0, 0), ks (ku i 6019 ((i 6019) + 1)) a17 q r)) (by rw [(by decide : (([(-1), 0, 0, 2, 1, 3, 0, 4] : List Int32).getD (7 : Int32).toNatClampNeg 0) = 4)]) ?_
      have s21 : (x5 + 1).toInt = x5.toInt + (1 : Int32).toInt := kd_add (or16 hp2.1 kor1) (or264 hp2.2 kor1)
      refine ft_go mi_k13 8 105 [(7, .int 81), (6, .int 7), (0, .ref 94), (1, .int x1), (2, .int 7), (3, .int 3), (4, .int x4), (5, .int x5)] [.int (x5 + 1), .int x4, .int 3, .int 4, .int x1, .ref 94] (ku i 6019 ((i 6019) + 1)) a17 q r (by rfl) ?_
      have r22 : ((0 : Int) ≤ ((a17 95).getD x1.toNatClampNeg 0).toInt) ∧ (((a17 95).getD x1.toNatClampNeg 0).toInt ≤ 7) := hJ19.I.2.2.1 95 (x1.toNatClampNeg)
      have u23 : ((a17 95).getD x1.toNatClampNeg 0).toInt = ((a 95).getD x1.toNatClampNeg 0).toInt := congrArg (fun z : List Int32 => (z.getD x1.toNatClampNeg 0).toInt) (fa17 95 (by decide))
      refine ko_callI mi_k13.1 (pc := 105) (ls := [(7, .int 81), (6, .int 7), (0, .ref 94), (1, .int x1), (2, .int 7), (3, .int 3), (4, .int x4), (5, .int x5)]) (st := [.int (x5 + 1), .int x4, .int 3, .int 4, .int x1, .ref 94]) (h := ks (ku i 6019 ((i 6019) + 1)) a17 q r) (i := (.invokevirtual 35, 3, 13, 0, 9, 0, 297)) (mi_k13.2 _ _ (by rfl)) (ft_invS mi_pq13 (by rfl)) (cy := mi_c13) mi_pq13 rfl (ke13_94_l14_l23_K7 hJ19.I hJ19.R x1 x4 (x5 + 1) (or25 hp0.1 hp0.2) (or96 hp1 r22.2 u23) (or265 hp2.1 hp2.2 s21 kor1) (or304 fi_6019.1 hp3.2 s18 kor1)) (by decide) ?_
      intro vg24 ig24 ag24 qg24 rg24 kg24 hg24
      have hGg24 := kG_call hJ19 kg24 (by decide +kernel)
      obtain ⟨hg24, og24⟩ := hg24
      have fig24_6019 : ((0 : Int) ≤ (ig24 6019).toInt) ∧ ((ig24 6019).toInt ≤ 1000) := hGg24.I.1 6019
      have z25 : (ig24 6019).toInt = (((i 6019) + 1).toInt + 13) := hg24
      have q26 : vg24 = av0_3_7 x1 x4 := og24.1
      have t27 : trS (a17 96) ((i 6019) + 1) (ag24 96) (ig24 6019) [2, 80, 10, 20, 1, 50, 11, 20, 1, 50, 11, 20, 1] := og24.2
      have b28 : ((-2147483648 : Int) ≤ vg24.toInt) ∧ (vg24.toInt ≤ 2147483647) := kd_bd vg24
      refine ft_go mi_k13 6 258 [(8, .int vg24), (7, .int 81), (6, .int 7), (0, .ref 94), (1, .int x1), (2, .int 7), (3, .int 3), (4, .int x4), (5, .int x5)] [.int (vg24 - 1)] ig24 ag24 qg24 rg24 (by rfl) ?_
      exact ft_ret mi_k13 (by rfl) (hP (vg24 - 1) _ _ _ _ hGg24 ⟨(or303 s18 z25 kor1), ⟨(show (vg24 - 1) = av7_3_7 x1 x4 from congrArg (fun z0_ => (z0_ - 1)) q26), (tr_app (es := [81, 2, 80, 10, 20, 1, 50, 11, 20, 1, 50, 11, 20, 1]) (show trS (a 96) (i 6019) (a17 96) ((i 6019) + 1) [81] from tr_st (or18 fi_6019.1) (or15 c16 kor24) (kset_o ea17 rfl) (or12 s18 kor1)) t27 (by rfl))⟩⟩)
  ·
    have c29 : (40 : Int32).toInt ≤ x5.toInt := kd_ltF c; clear c
    exact (or266 c29 hp2.2 kor40).elim
def yw12_94 : kW := ([6019], [96], [], [])
set_option maxRecDepth 100000 in
theorem ke12_94 {i : Nat → Int32} {a : Nat → List Int32} {q : Nat → List Int64} {r : Nat → Nat} (hI : kI i a q) (hr : kr r) (x1 : Int32) (x2 : Int32) (x3 : Int32) : km 19 12 [.ref 94, .int x1, .int x2, .int x3] (ks i a q r) (kVI yw12_94 i a q r (fun v i1 a1 q1 r1 => (True) ∧ (((0 ≤ x1.toInt ∧ x1.toInt < (i 6017).toInt ∧ 0 ≤ x2.toInt ∧ x2.toInt ≤ 3) → v = avV ((a 95).getD x1.toNatClampNeg 0) x2 x1 x3 ∧ trS (a 96) 0 (a1 96) (i1 6019) (trC ((a 95).getD x1.toNatClampNeg 0) x2)) ∧ (¬ (0 ≤ x1.toInt ∧ x1.toInt < (i 6017).toInt ∧ 0 ≤ x2.toInt ∧ x2.toInt ≤ 3) → v = 0 ∧ a1 96 = a 96 ∧ i1 6019 = 0)))) := by
  have hG := kG_self yw12_94 hI hr
  refine km_ofI (q := (mi_h12, mi_c12)) rfl (by decide) (Nat.le_of_ble_eq_true rfl) ?_
  intro P hP
  have hJ1 := kG_i hG 6019 rfl (v := 0) ⟨(or0 kor0), (or1 kor0)⟩
  refine ft_go mi_k12 5 7 [(0, .ref 94), (1, .int x1), (2, .int x2), (3, .int x3)] [.int x1, .ref 94] (ku i 6019 0) a q r (by rfl) ?_
  refine ko_callPI mi_k12.1 (pc := 7) (ls := [(0, .ref 94), (1, .int x1), (2, .int x2), (3, .int x3)]) (st := [.int x1, .ref 94]) (h := ks (ku i 6019 0) a q r) (i := (.invokevirtual 31, 3, 8, 0, 9, 0, 296)) (mi_k12.2 _ _ (by rfl)) (ft_invS mi_pq8 (by rfl)) (cy := mi_c8) mi_pq8 rfl (kc8_94 hJ1.I hJ1.R x1) (by decide) ?_
  intro vg2 hg2
  rcases hg2 with ⟨eg2, hg2⟩ | ⟨eg2, hg2⟩
  ·
    subst eg2
    have fi_6017 : ((0 : Int) ≤ (i 6017).toInt) ∧ ((i 6017).toInt ≤ 50) := hJ1.I.1 6017
    have z3 : ((0 : Int) ≤ x1.toInt) ∧ (x1.toInt < (i 6017).toInt) := hg2
    refine ft_go mi_k12 2 14 [(0, .ref 94), (1, .int x1), (2, .int x2), (3, .int x3)] [.int x2] (ku i 6019 0) a q r (by rfl) ?_
    refine ft_if mi_k12 (decide (x2 < 0)) 22 17 [(0, .ref 94), (1, .int x1), (2, .int x2), (3, .int x3)] [] (by rfl) (fun c => ?_) (fun c => ?_)
    ·
      have c4 : x2.toInt < (0 : Int32).toInt := kd_lt c; clear c
      refine ft_go mi_k12 1 23 [(0, .ref 94), (1, .int x1), (2, .int x2), (3, .int x3)] [.int 0] (ku i 6019 0) a q r (by rfl) ?_
      exact ft_ret mi_k12 (by rfl) (hP 0 _ _ _ _ hJ1 ⟨trivial, ⟨fun h => absurd h (or124 c4 kor0), fun _ => ⟨rfl, rfl, rfl⟩⟩⟩)
    ·
      have c5 : (0 : Int32).toInt ≤ x2.toInt := kd_ltF c; clear c
      refine ft_go mi_k12 2 19 [(0, .ref 94), (1, .int x1), (2, .int x2), (3, .int x3)] [.int 4, .int x2] (ku i 6019 0) a q r (by rfl) ?_
      refine ft_if mi_k12 (decide (x2 < 4)) 24 22 [(0, .ref 94), (1, .int x1), (2, .int x2), (3, .int x3)] [] (by rfl) (fun c => ?_) (fun c => ?_)
      ·
        have c6 : x2.toInt < (4 : Int32).toInt := kd_lt c; clear c
        refine ft_go mi_k12 5 31 [(0, .ref 94), (1, .int x1), (2, .int x2), (3, .int x3)] [.int x1, .ref 95, .int x1, .ref 94] (ku i 6019 0) a q r (by rfl) ?_
        refine ko_iald3 mi_k12.1 (n := 50) (c := 50) (ax := (0, 0, 0, 0, 0)) (mi_k12.2 _ _ (by rfl)) (by rfl) (ksG95 _ _ _ _) (hJ1.I.2.1 95) rfl (or14 z3.1) (or125 fi_6017.2 z3.2) ?_
        have r7 : ((0 : Int) ≤ ((a 95).getD x1.toNatClampNeg 0).toInt) ∧ (((a 95).getD x1.toNatClampNeg 0).toInt ≤ 7) := hJ1.I.2.2.1 95 (x1.toNatClampNeg)
        refine ft_go mi_k12 3 35 [(0, .ref 94), (1, .int x1), (2, .int x2), (3, .int x3)] [.int 0, .int x3, .int x2, .int ((a 95).getD x1.toNatClampNeg 0), .int x1, .ref 94] (ku i 6019 0) a q r (by rfl) ?_
        by_cases w8 : ((a 95).getD x1.toNatClampNeg 0).toInt = 0
        ·
          refine ko_eq (x1 := (35, [(0, .ref 94), (1, .int x1), (2, .int x2), (3, .int x3)], [.int 0, .int x3, .int x2, .int 0, .int x1, .ref 94], (0, 0), ks (ku i 6019 0) a q r)) (by rw [(kj_eq w8 (by decide) : ((a 95).getD x1.toNatClampNeg 0) = 0)]) ?_
          by_cases w9 : x2.toInt = 0
          ·
            refine ko_eq (x1 := (35, [(0, .ref 94), (1, .int x1), (2, .int x2), (3, .int x3)], [.int 0, .int x3, .int 0, .int 0, .int x1, .ref 94], (0, 0), ks (ku i 6019 0) a q r)) (by rw [(kj_eq w9 (by decide) : x2 = 0)]) ?_
            refine ko_callI mi_k12.1 (pc := 35) (ls := [(0, .ref 94), (1, .int x1), (2, .int x2), (3, .int x3)]) (st := [.int 0, .int x3, .int 0, .int 0, .int x1, .ref 94]) (h := ks (ku i 6019 0) a q r) (i := (.invokevirtual 35, 3, 13, 0, 9, 0, 297)) (mi_k12.2 _ _ (by rfl)) (ft_invS mi_pq13 (by rfl)) (cy := mi_c13) mi_pq13 rfl (ke13_94_l10_l20_K0 hJ1.I hJ1.R x1 x3 0 (or136 fi_6017.2 z3.1 z3.2) (or33 r7.1 w8) (or137 kor0) (or109 kor0)) (by decide) ?_
            intro vg10 ig10 ag10 qg10 rg10 kg10 hg10
            have hGg10 := kG_call hJ1 kg10 (by decide +kernel)
            obtain ⟨hg10, og10⟩ := hg10
            have fig10_6019 : ((0 : Int) ≤ (ig10 6019).toInt) ∧ ((ig10 6019).toInt ≤ 1000) := hGg10.I.1 6019
            have z11 : (ig10 6019).toInt = ((0 : Int32).toInt + 1) := hg10
            have q12 : vg10 = av0_0_0 x1 x3 := og10.1
            have t13 : trS (a 96) (0 : Int32) (ag10 96) (ig10 6019) [1] := og10.2
            exact ft_ret mi_k12 (by rfl) (hP vg10 _ _ _ _ hGg10 ⟨trivial, ⟨fun _ => ⟨((q12).trans (avV_0_0 (or33 r7.1 w8) (or138 c5 w9 kor0)).symm), tr_cs t13 (trC_0_0 (or33 r7.1 w8) (or138 c5 w9 kor0))⟩, fun h => absurd (or139 c5 c6 z3.1 z3.2 kor0 kor4) h⟩⟩)
          by_cases w14 : x2.toInt = 1
          ·
            refine ko_eq (x1 := (35, [(0, .ref 94), (1, .int x1), (2, .int x2), (3, .int x3)], [.int 0, .int x3, .int 1, .int 0, .int x1, .ref 94], (0, 0), ks (ku i 6019 0) a q r)) (by rw [(kj_eq w14 (by decide) : x2 = 1)]) ?_
            refine ko_callI mi_k12.1 (pc := 35) (ls := [(0, .ref 94), (1, .int x1), (2, .int x2), (3, .int x3)]) (st := [.int 0, .int x3, .int 1, .int 0, .int x1, .ref 94]) (h := ks (ku i 6019 0) a q r) (i := (.invokevirtual 35, 3, 13, 0, 9, 0, 297)) (mi_k12.2 _ _ (by rfl)) (ft_invS mi_pq13 (by rfl)) (cy := mi_c13) mi_pq13 rfl (ke13_94_l10_l21_K0 hJ1.I hJ1.R x1 x3 0 (or136 fi_6017.2 z3.1 z3.2) (or33 r7.1 w8) (or150 kor0) (or112 kor0)) (by decide) ?_
            intro vg15 ig15 ag15 qg15 rg15 kg15 hg15
            have hGg15 := kG_call hJ1 kg15 (by decide +kernel)
            obtain ⟨hg15, og15⟩ := hg15
            have fig15_6019 : ((0 : Int) ≤ (ig15 6019).toInt) ∧ ((ig15 6019).toInt ≤ 1000) := hGg15.I.1 6019
            have z16 : (ig15 6019).toInt = ((0 : Int32).toInt + 2) := hg15
            have q17 : vg15 = av0_1_0 x1 x3 := og15.1
            have t18 : trS (a 96) (0 : Int32) (ag15 96) (ig15 6019) [10, 1] := og15.2
            exact ft_ret mi_k12 (by rfl) (hP vg15 _ _ _ _ hGg15 ⟨trivial, ⟨fun _ => ⟨((q17).trans (avV_0_1 (or33 r7.1 w8) (or43 w14)).symm), tr_cs t18 (trC_0_1 (or33 r7.1 w8) (or43 w14))⟩, fun h => absurd (or151 c6 w14 z3.1 z3.2 kor4) h⟩⟩)
          by_cases w19 : x2.toInt = 2
          ·
            refine ko_eq (x1 := (35, [(0, .ref 94), (1, .int x1), (2, .int x2), (3, .int x3)], [.int 0, .int x3, .int 2, .int 0, .int x1, .ref 94], (0, 0), ks (ku i 6019 0) a q r)) (by rw [(kj_eq w19 (by decide) : x2 = 2)]) ?_
            refine ko_callI mi_k12.1 (pc := 35) (ls := [(0, .ref 94), (1, .int x1), (2, .int x2), (3, .int x3)]) (st := [.int 0, .int x3, .int 2, .int 0, .int x1, .ref 94]) (h := ks (ku i 6019 0) a q r) (i := (.invokevirtual 35, 3, 13, 0, 9, 0, 297)) (mi_k12.2 _ _ (by rfl)) (ft_invS mi_pq13 (by rfl)) (cy := mi_c13) mi_pq13 rfl (ke13_94_l10_l22_K0 hJ1.I hJ1.R x1 x3 0 (or136 fi_6017.2 z3.1 z3.2) (or33 r7.1 w8) (or137 kor0) (or109 kor0)) (by decide) ?_
            intro vg20 ig20 ag20 qg20 rg20 kg20 hg20
            have hGg20 := kG_call hJ1 kg20 (by decide +kernel)
            obtain ⟨hg20, og20⟩ := hg20
            have fig20_6019 : ((0 : Int) ≤ (ig20 6019).toInt) ∧ ((ig20 6019).toInt ≤ 1000) := hGg20.I.1 6019
            have z21 : (ig20 6019).toInt = ((0 : Int32).toInt + 1) := hg20
            have q22 : vg20 = av0_2_0 x1 x3 := og20.1
            have t23 : trS (a 96) (0 : Int32) (ag20 96) (ig20 6019) [11] := og20.2
            exact ft_ret mi_k12 (by rfl) (hP vg20 _ _ _ _ hGg20 ⟨trivial, ⟨fun _ => ⟨((q22).trans (avV_0_2 (or33 r7.1 w8) (or55 w19)).symm), tr_cs t23 (trC_0_2 (or33 r7.1 w8) (or55 w19))⟩, fun h => absurd (or154 c6 w19 z3.1 z3.2 kor4) h⟩⟩)
          by_cases w24 : x2.toInt = 3
          ·
            refine ko_eq (x1 := (35, [(0, .ref 94), (1, .int x1), (2, .int x2), (3, .int x3)], [.int 0, .int x3, .int 3, .int 0, .int x1, .ref 94], (0, 0), ks (ku i 6019 0) a q r)) (by rw [(kj_eq w24 (by decide) : x2 = 3)]) ?_
            refine ko_callI mi_k12.1 (pc := 35) (ls := [(0, .ref 94), (1, .int x1), (2, .int x2), (3, .int x3)]) (st := [.int 0, .int x3, .int 3, .int 0, .int x1, .ref 94]) (h := ks (ku i 6019 0) a q r) (i := (.invokevirtual 35, 3, 13, 0, 9, 0, 297)) (mi_k12.2 _ _ (by rfl)) (ft_invS mi_pq13 (by rfl)) (cy := mi_c13) mi_pq13 rfl (ke13_94_l10_l23_K0 hJ1.I hJ1.R x1 x3 0 (or136 fi_6017.2 z3.1 z3.2) (or33 r7.1 w8) (or169 kor0) (or34 kor0)) (by decide) ?_
            intro vg25 ig25 ag25 qg25 rg25 kg25 hg25
            have hGg25 := kG_call hJ1 kg25 (by decide +kernel)
            obtain ⟨hg25, og25⟩ := hg25
            have fig25_6019 : ((0 : Int) ≤ (ig25 6019).toInt) ∧ ((ig25 6019).toInt ≤ 1000) := hGg25.I.1 6019
            have z26 : (ig25 6019).toInt = ((0 : Int32).toInt + 4) := hg25
            have q27 : vg25 = av0_3_0 x1 x3 := og25.1
            have t28 : trS (a 96) (0 : Int32) (ag25 96) (ig25 6019) [2, 10, 1, 11] := og25.2
            exact ft_ret mi_k12 (by rfl) (hP vg25 _ _ _ _ hGg25 ⟨trivial, ⟨fun _ => ⟨((q27).trans (avV_0_3 (or33 r7.1 w8) (or170 c6 w24 kor4)).symm), tr_cs t28 (trC_0_3 (or33 r7.1 w8) (or170 c6 w24 kor4))⟩, fun h => absurd (or171 c6 w24 z3.1 z3.2 kor4) h⟩⟩)
          exact (or172 c5 c6 w14 w19 w24 w9 kor0 kor4).elim
        by_cases w29 : ((a 95).getD x1.toNatClampNeg 0).toInt = 1
        ·
          refine ko_eq (x1 := (35, [(0, .ref 94), (1, .int x1), (2, .int x2), (3, .int x3)], [.int 0, .int x3, .int x2, .int 1, .int x1, .ref 94], (0, 0), ks (ku i 6019 0) a q r)) (by rw [(kj_eq w29 (by decide) : ((a 95).getD x1.toNatClampNeg 0) = 1)]) ?_
          by_cases w30 : x2.toInt = 0
          ·
            refine ko_eq (x1 := (35, [(0, .ref 94), (1, .int x1), (2, .int x2), (3, .int x3)], [.int 0, .int x3, .int 0, .int 1, .int x1, .ref 94], (0, 0), ks (ku i 6019 0) a q r)) (by rw [(kj_eq w30 (by decide) : x2 = 0)]) ?_
            refine ko_callI mi_k12.1 (pc := 35) (ls := [(0, .ref 94), (1, .int x1), (2, .int x2), (3, .int x3)]) (st := [.int 0, .int x3, .int 0, .int 1, .int x1, .ref 94]) (h := ks (ku i 6019 0) a q r) (i := (.invokevirtual 35, 3, 13, 0, 9, 0, 297)) (mi_k12.2 _ _ (by rfl)) (ft_invS mi_pq13 (by rfl)) (cy := mi_c13) mi_pq13 rfl (ke13_94_l11_l20_K1 hJ1.I hJ1.R x1 x3 0 (or136 fi_6017.2 z3.1 z3.2) (or43 w29) (or150 kor0) (or112 kor0)) (by decide) ?_
            intro vg31 ig31 ag31 qg31 rg31 kg31 hg31
            have hGg31 := kG_call hJ1 kg31 (by decide +kernel)
            obtain ⟨hg31, og31⟩ := hg31
            have fig31_6019 : ((0 : Int) ≤ (ig31 6019).toInt) ∧ ((ig31 6019).toInt ≤ 1000) := hGg31.I.1 6019
            have z32 : (ig31 6019).toInt = ((0 : Int32).toInt + 2) := hg31
            have q33 : vg31 = av1_0_1 x1 x3 := og31.1
            have t34 : trS (a 96) (0 : Int32) (ag31 96) (ig31 6019) [20, 1] := og31.2
            exact ft_ret mi_k12 (by rfl) (hP vg31 _ _ _ _ hGg31 ⟨trivial, ⟨fun _ => ⟨((q33).trans (avV_1_0 (or43 w29) (or138 c5 w30 kor0)).symm), tr_cs t34 (trC_1_0 (or43 w29) (or138 c5 w30 kor0))⟩, fun h => absurd (or139 c5 c6 z3.1 z3.2 kor0 kor4) h⟩⟩)
          by_cases w35 : x2.toInt = 1
          ·
            refine ko_eq (x1 := (35, [(0, .ref 94), (1, .int x1), (2, .int x2), (3, .int x3)], [.int 0, .int x3, .int 1, .int 1, .int x1, .ref 94], (0, 0), ks (ku i 6019 0) a q r)) (by rw [(kj_eq w35 (by decide) : x2 = 1)]) ?_
            refine ko_callI mi_k12.1 (pc := 35) (ls := [(0, .ref 94), (1, .int x1), (2, .int x2), (3, .int x3)]) (st := [.int 0, .int x3, .int 1, .int 1, .int x1, .ref 94]) (h := ks (ku i 6019 0) a q r) (i := (.invokevirtual 35, 3, 13, 0, 9, 0, 297)) (mi_k12.2 _ _ (by rfl)) (ft_invS mi_pq13 (by rfl)) (cy := mi_c13) mi_pq13 rfl (ke13_94_l11_l21_K1 hJ1.I hJ1.R x1 x3 0 (or136 fi_6017.2 z3.1 z3.2) (or43 w29) (or169 kor0) (or115 kor0)) (by decide) ?_
            intro vg36 ig36 ag36 qg36 rg36 kg36 hg36
            have hGg36 := kG_call hJ1 kg36 (by decide +kernel)
            obtain ⟨hg36, og36⟩ := hg36
            have fig36_6019 : ((0 : Int) ≤ (ig36 6019).toInt) ∧ ((ig36 6019).toInt ≤ 1000) := hGg36.I.1 6019
            have z37 : (ig36 6019).toInt = ((0 : Int32).toInt + 3) := hg36
            have q38 : vg36 = av0_1_1 x1 x3 := og36.1
            have t39 : trS (a 96) (0 : Int32) (ag36 96) (ig36 6019) [10, 20, 1] := og36.2
            exact ft_ret mi_k12 (by rfl) (hP vg36 _ _ _ _ hGg36 ⟨trivial, ⟨fun _ => ⟨((q38).trans (avV_1_1 (or43 w29) (or43 w35)).symm), tr_cs t39 (trC_1_1 (or43 w29) (or43 w35))⟩, fun h => absurd (or151 c6 w35 z3.1 z3.2 kor4) h⟩⟩)
          by_cases w40 : x2.toInt = 2
          ·
            refine ko_eq (x1 := (35, [(0, .ref 94), (1, .int x1), (2, .int x2), (3, .int x3)], [.int 0, .int x3, .int 2, .int 1, .int x1, .ref 94], (0, 0), ks (ku i 6019 0) a q r)) (by rw [(kj_eq w40 (by decide) : x2 = 2)]) ?_
            refine ko_callI mi_k12.1 (pc := 35) (ls := [(0, .ref 94), (1, .int x1), (2, .int x2), (3, .int x3)]) (st := [.int 0, .int x3, .int 2, .int 1, .int x1, .ref 94]) (h := ks (ku i 6019 0) a q r) (i := (.invokevirtual 35, 3, 13, 0, 9, 0, 297)) (mi_k12.2 _ _ (by rfl)) (ft_invS mi_pq13 (by rfl)) (cy := mi_c13) mi_pq13 rfl (ke13_94_l11_l22_K1 hJ1.I hJ1.R x1 x3 0 (or136 fi_6017.2 z3.1 z3.2) (or43 w29) (or137 kor0) (or109 kor0)) (by decide) ?_
            intro vg41 ig41 ag41 qg41 rg41 kg41 hg41
            have hGg41 := kG_call hJ1 kg41 (by decide +kernel)
            obtain ⟨hg41, og41⟩ := hg41
            have fig41_6019 : ((0 : Int) ≤ (ig41 6019).toInt) ∧ ((ig41 6019).toInt ≤ 1000) := hGg41.I.1 6019
            have z42 : (ig41 6019).toInt = ((0 : Int32).toInt + 1) := hg41
            have q43 : vg41 = av0_2_1 x1 x3 := og41.1
            have t44 : trS (a 96) (0 : Int32) (ag41 96) (ig41 6019) [11] := og41.2
            exact ft_ret mi_k12 (by rfl) (hP vg41 _ _ _ _ hGg41 ⟨trivial, ⟨fun _ => ⟨((q43).trans (avV_1_2 (or43 w29) (or55 w40)).symm), tr_cs t44 (trC_1_2 (or43 w29) (or55 w40))⟩, fun h => absurd (or154 c6 w40 z3.1 z3.2 kor4) h⟩⟩)
          by_cases w45 : x2.toInt = 3
          ·
            refine ko_eq (x1 := (35, [(0, .ref 94), (1, .int x1), (2, .int x2), (3, .int x3)], [.int 0, .int x3, .int 3, .int 1, .int x1, .ref 94], (0, 0), ks (ku i 6019 0) a q r)) (by rw [(kj_eq w45 (by decide) : x2 = 3)]) ?_
            refine ko_callI mi_k12.1 (pc := 35) (ls := [(0, .ref 94), (1, .int x1), (2, .int x2), (3, .int x3)]) (st := [.int 0, .int x3, .int 3, .int 1, .int x1, .ref 94]) (h := ks (ku i 6019 0) a q r) (i := (.invokevirtual 35, 3, 13, 0, 9, 0, 297)) (mi_k12.2 _ _ (by rfl)) (ft_invS mi_pq13 (by rfl)) (cy := mi_c13) mi_pq13 rfl (ke13_94_l11_l23_K1 hJ1.I hJ1.R x1 x3 0 (or136 fi_6017.2 z3.1 z3.2) (or43 w29) (or198 kor0) (or53 kor0)) (by decide) ?_
            intro vg46 ig46 ag46 qg46 rg46 kg46 hg46
            have hGg46 := kG_call hJ1 kg46 (by decide +kernel)
            obtain ⟨hg46, og46⟩ := hg46
            have fig46_6019 : ((0 : Int) ≤ (ig46 6019).toInt) ∧ ((ig46 6019).toInt ≤ 1000) := hGg46.I.1 6019
            have z47 : (ig46 6019).toInt = ((0 : Int32).toInt + 5) := hg46
            have q48 : vg46 = av0_3_1 x1 x3 := og46.1
            have t49 : trS (a 96) (0 : Int32) (ag46 96) (ig46 6019) [2, 10, 20, 1, 11] := og46.2
            exact ft_ret mi_k12 (by rfl) (hP vg46 _ _ _ _ hGg46 ⟨trivial, ⟨fun _ => ⟨((q48).trans (avV_1_3 (or43 w29) (or170 c6 w45 kor4)).symm), tr_cs t49 (trC_1_3 (or43 w29) (or170 c6 w45 kor4))⟩, fun h => absurd (or171 c6 w45 z3.1 z3.2 kor4) h⟩⟩)
          exact (or199 c5 c6 w30 w35 w40 w45 kor0 kor4).elim
        by_cases w50 : ((a 95).getD x1.toNatClampNeg 0).toInt = 2
        ·
          refine ko_eq (x1 := (35, [(0, .ref 94), (1, .int x1), (2, .int x2), (3, .int x3)], [.int 0, .int x3, .int x2, .int 2, .int x1, .ref 94], (0, 0), ks (ku i 6019 0) a q r)) (by rw [(kj_eq w50 (by decide) : ((a 95).getD x1.toNatClampNeg 0) = 2)]) ?_
          by_cases w51 : x2.toInt = 0
          ·
            refine ko_eq (x1 := (35, [(0, .ref 94), (1, .int x1), (2, .int x2), (3, .int x3)], [.int 0, .int x3, .int 0, .int 2, .int x1, .ref 94], (0, 0), ks (ku i 6019 0) a q r)) (by rw [(kj_eq w51 (by decide) : x2 = 0)]) ?_
            refine ko_callI mi_k12.1 (pc := 35) (ls := [(0, .ref 94), (1, .int x1), (2, .int x2), (3, .int x3)]) (st := [.int 0, .int x3, .int 0, .int 2, .int x1, .ref 94]) (h := ks (ku i 6019 0) a q r) (i := (.invokevirtual 35, 3, 13, 0, 9, 0, 297)) (mi_k12.2 _ _ (by rfl)) (ft_invS mi_pq13 (by rfl)) (cy := mi_c13) mi_pq13 rfl (ke13_94_l12_l20_K2 hJ1.I hJ1.R x1 x3 0 (or136 fi_6017.2 z3.1 z3.2) (or55 w50) (or137 kor0) (or109 kor0)) (by decide) ?_
            intro vg52 ig52 ag52 qg52 rg52 kg52 hg52
            have hGg52 := kG_call hJ1 kg52 (by decide +kernel)
            obtain ⟨hg52, og52⟩ := hg52
            have fig52_6019 : ((0 : Int) ≤ (ig52 6019).toInt) ∧ ((ig52 6019).toInt ≤ 1000) := hGg52.I.1 6019
            have z53 : (ig52 6019).toInt = ((0 : Int32).toInt + 1) := hg52
            have q54 : vg52 = av0_0_2 x1 x3 := og52.1
            have t55 : trS (a 96) (0 : Int32) (ag52 96) (ig52 6019) [1] := og52.2
            exact ft_ret mi_k12 (by rfl) (hP vg52 _ _ _ _ hGg52 ⟨trivial, ⟨fun _ => ⟨((q54).trans (avV_2_0 (or55 w50) (or138 c5 w51 kor0)).symm), tr_cs t55 (trC_2_0 (or55 w50) (or138 c5 w51 kor0))⟩, fun h => absurd (or139 c5 c6 z3.1 z3.2 kor0 kor4) h⟩⟩)
          by_cases w56 : x2.toInt = 1
          ·
            refine ko_eq (x1 := (35, [(0, .ref 94), (1, .int x1), (2, .int x2), (3, .int x3)], [.int 0, .int x3, .int 1, .int 2, .int x1, .ref 94], (0, 0), ks (ku i 6019 0) a q r)) (by rw [(kj_eq w56 (by decide) : x2 = 1)]) ?_
            refine ko_callI mi_k12.1 (pc := 35) (ls := [(0, .ref 94), (1, .int x1), (2, .int x2), (3, .int x3)]) (st := [.int 0, .int x3, .int 1, .int 2, .int x1, .ref 94]) (h := ks (ku i 6019 0) a q r) (i := (.invokevirtual 35, 3, 13, 0, 9, 0, 297)) (mi_k12.2 _ _ (by rfl)) (ft_invS mi_pq13 (by rfl)) (cy := mi_c13) mi_pq13 rfl (ke13_94_l12_l21_K2 hJ1.I hJ1.R x1 x3 0 (or136 fi_6017.2 z3.1 z3.2) (or55 w50) (or169 kor0) (or115 kor0)) (by decide) ?_
            intro vg57 ig57 ag57 qg57 rg57 kg57 hg57
            have hGg57 := kG_call hJ1 kg57 (by decide +kernel)
            obtain ⟨hg57, og57⟩ := hg57
            have fig57_6019 : ((0 : Int) ≤ (ig57 6019).toInt) ∧ ((ig57 6019).toInt ≤ 1000) := hGg57.I.1 6019
            have z58 : (ig57 6019).toInt = ((0 : Int32).toInt + 3) := hg57
            have q59 : vg57 = av2_1_2 x1 x3 := og57.1
            have t60 : trS (a 96) (0 : Int32) (ag57 96) (ig57 6019) [30, 10, 1] := og57.2
            exact ft_ret mi_k12 (by rfl) (hP vg57 _ _ _ _ hGg57 ⟨trivial, ⟨fun _ => ⟨((q59).trans (avV_2_1 (or55 w50) (or43 w56)).symm), tr_cs t60 (trC_2_1 (or55 w50) (or43 w56))⟩, fun h => absurd (or151 c6 w56 z3.1 z3.2 kor4) h⟩⟩)
          by_cases w61 : x2.toInt = 2
          ·
            refine ko_eq (x1 := (35, [(0, .ref 94), (1, .int x1), (2, .int x2), (3, .int x3)], [.int 0, .int x3, .int 2, .int 2, .int x1, .ref 94], (0, 0), ks (ku i 6019 0) a q r)) (by rw [(kj_eq w61 (by decide) : x2 = 2)]) ?_
            refine ko_callI mi_k12.1 (pc := 35) (ls := [(0, .ref 94), (1, .int x1), (2, .int x2), (3, .int x3)]) (st := [.int 0, .int x3, .int 2, .int 2, .int x1, .ref 94]) (h := ks (ku i 6019 0) a q r) (i := (.invokevirtual 35, 3, 13, 0, 9, 0, 297)) (mi_k12.2 _ _ (by rfl)) (ft_invS mi_pq13 (by rfl)) (cy := mi_c13) mi_pq13 rfl (ke13_94_l12_l22_K2 hJ1.I hJ1.R x1 x3 0 (or136 fi_6017.2 z3.1 z3.2) (or55 w50) (or137 kor0) (or109 kor0)) (by decide) ?_
            intro vg62 ig62 ag62 qg62 rg62 kg62 hg62
            have hGg62 := kG_call hJ1 kg62 (by decide +kernel)
            obtain ⟨hg62, og62⟩ := hg62
            have fig62_6019 : ((0 : Int) ≤ (ig62 6019).toInt) ∧ ((ig62 6019).toInt ≤ 1000) := hGg62.I.1 6019
            have z63 : (ig62 6019).toInt = ((0 : Int32).toInt + 1) := hg62
            have q64 : vg62 = av0_2_2 x1 x3 := og62.1
            have t65 : trS (a 96) (0 : Int32) (ag62 96) (ig62 6019) [11] := og62.2
            exact ft_ret mi_k12 (by rfl) (hP vg62 _ _ _ _ hGg62 ⟨trivial, ⟨fun _ => ⟨((q64).trans (avV_2_2 (or55 w50) (or55 w61)).symm), tr_cs t65 (trC_2_2 (or55 w50) (or55 w61))⟩, fun h => absurd (or154 c6 w61 z3.1 z3.2 kor4) h⟩⟩)
          by_cases w66 : x2.toInt = 3
          ·
            refine ko_eq (x1 := (35, [(0, .ref 94), (1, .int x1), (2, .int x2), (3, .int x3)], [.int 0, .int x3, .int 3, .int 2, .int x1, .ref 94], (0, 0), ks (ku i 6019 0) a q r)) (by rw [(kj_eq w66 (by decide) : x2 = 3)]) ?_
            refine ko_callI mi_k12.1 (pc := 35) (ls := [(0, .ref 94), (1, .int x1), (2, .int x2), (3, .int x3)]) (st := [.int 0, .int x3, .int 3, .int 2, .int x1, .ref 94]) (h := ks (ku i 6019 0) a q r) (i := (.invokevirtual 35, 3, 13, 0, 9, 0, 297)) (mi_k12.2 _ _ (by rfl)) (ft_invS mi_pq13 (by rfl)) (cy := mi_c13) mi_pq13 rfl (ke13_94_l12_l23_K2 hJ1.I hJ1.R x1 x3 0 (or136 fi_6017.2 z3.1 z3.2) (or55 w50) (or198 kor0) (or53 kor0)) (by decide) ?_
            intro vg67 ig67 ag67 qg67 rg67 kg67 hg67
            have hGg67 := kG_call hJ1 kg67 (by decide +kernel)
            obtain ⟨hg67, og67⟩ := hg67
            have fig67_6019 : ((0 : Int) ≤ (ig67 6019).toInt) ∧ ((ig67 6019).toInt ≤ 1000) := hGg67.I.1 6019
            have z68 : (ig67 6019).toInt = ((0 : Int32).toInt + 5) := hg67
            have q69 : vg67 = av0_3_2 x1 x3 := og67.1
            have t70 : trS (a 96) (0 : Int32) (ag67 96) (ig67 6019) [2, 30, 10, 1, 11] := og67.2
            exact ft_ret mi_k12 (by rfl) (hP vg67 _ _ _ _ hGg67 ⟨trivial, ⟨fun _ => ⟨((q69).trans (avV_2_3 (or55 w50) (or170 c6 w66 kor4)).symm), tr_cs t70 (trC_2_3 (or55 w50) (or170 c6 w66 kor4))⟩, fun h => absurd (or171 c6 w66 z3.1 z3.2 kor4) h⟩⟩)
          exact (or199 c5 c6 w51 w56 w61 w66 kor0 kor4).elim
        by_cases w71 : ((a 95).getD x1.toNatClampNeg 0).toInt = 3
        ·
          refine ko_eq (x1 := (35, [(0, .ref 94), (1, .int x1), (2, .int x2), (3, .int x3)], [.int 0, .int x3, .int x2, .int 3, .int x1, .ref 94], (0, 0), ks (ku i 6019 0) a q r)) (by rw [(kj_eq w71 (by decide) : ((a 95).getD x1.toNatClampNeg 0) = 3)]) ?_
          by_cases w72 : x2.toInt = 0
          ·
            refine ko_eq (x1 := (35, [(0, .ref 94), (1, .int x1), (2, .int x2), (3, .int x3)], [.int 0, .int x3, .int 0, .int 3, .int x1, .ref 94], (0, 0), ks (ku i 6019 0) a q r)) (by rw [(kj_eq w72 (by decide) : x2 = 0)]) ?_
            refine ko_callI mi_k12.1 (pc := 35) (ls := [(0, .ref 94), (1, .int x1), (2, .int x2), (3, .int x3)]) (st := [.int 0, .int x3, .int 0, .int 3, .int x1, .ref 94]) (h := ks (ku i 6019 0) a q r) (i := (.invokevirtual 35, 3, 13, 0, 9, 0, 297)) (mi_k12.2 _ _ (by rfl)) (ft_invS mi_pq13 (by rfl)) (cy := mi_c13) mi_pq13 rfl (ke13_94_l13_l20_K3 hJ1.I hJ1.R x1 x3 0 (or136 fi_6017.2 z3.1 z3.2) (or59 w71) (or137 kor0) (or109 kor0)) (by decide) ?_
            intro vg73 ig73 ag73 qg73 rg73 kg73 hg73
            have hGg73 := kG_call hJ1 kg73 (by decide +kernel)
            obtain ⟨hg73, og73⟩ := hg73
            have fig73_6019 : ((0 : Int) ≤ (ig73 6019).toInt) ∧ ((ig73 6019).toInt ≤ 1000) := hGg73.I.1 6019
            have z74 : (ig73 6019).toInt = ((0 : Int32).toInt + 1) := hg73
            have q75 : vg73 = av0_0_3 x1 x3 := og73.1
            have t76 : trS (a 96) (0 : Int32) (ag73 96) (ig73 6019) [1] := og73.2
            exact ft_ret mi_k12 (by rfl) (hP vg73 _ _ _ _ hGg73 ⟨trivial, ⟨fun _ => ⟨((q75).trans (avV_3_0 (or59 w71) (or138 c5 w72 kor0)).symm), tr_cs t76 (trC_3_0 (or59 w71) (or138 c5 w72 kor0))⟩, fun h => absurd (or139 c5 c6 z3.1 z3.2 kor0 kor4) h⟩⟩)
          by_cases w77 : x2.toInt = 1
          ·
            refine ko_eq (x1 := (35, [(0, .ref 94), (1, .int x1), (2, .int x2), (3, .int x3)], [.int 0, .int x3, .int 1, .int 3, .int x1, .ref 94], (0, 0), ks (ku i 6019 0) a q r)) (by rw [(kj_eq w77 (by decide) : x2 = 1)]) ?_
            refine ko_callI mi_k12.1 (pc := 35) (ls := [(0, .ref 94), (1, .int x1), (2, .int x2), (3, .int x3)]) (st := [.int 0, .int x3, .int 1, .int 3, .int x1, .ref 94]) (h := ks (ku i 6019 0) a q r) (i := (.invokevirtual 35, 3, 13, 0, 9, 0, 297)) (mi_k12.2 _ _ (by rfl)) (ft_invS mi_pq13 (by rfl)) (cy := mi_c13) mi_pq13 rfl (ke13_94_l13_l21_K3 hJ1.I hJ1.R x1 x3 0 (or136 fi_6017.2 z3.1 z3.2) (or59 w71) (or198 kor0) (or34 kor0)) (by decide) ?_
            intro vg78 ig78 ag78 qg78 rg78 kg78 hg78
            have hGg78 := kG_call hJ1 kg78 (by decide +kernel)
            obtain ⟨hg78, og78⟩ := hg78
            have fig78_6019 : ((0 : Int) ≤ (ig78 6019).toInt) ∧ ((ig78 6019).toInt ≤ 1000) := hGg78.I.1 6019
            have z79 : (ig78 6019).toInt = ((0 : Int32).toInt + 4) := hg78
            have q80 : vg78 = av3_1_3 x1 x3 := og78.1
            have t81 : trS (a 96) (0 : Int32) (ag78 96) (ig78 6019) [41, 30, 10, 1] := og78.2
            exact ft_ret mi_k12 (by rfl) (hP vg78 _ _ _ _ hGg78 ⟨trivial, ⟨fun _ => ⟨((q80).trans (avV_3_1 (or59 w71) (or43 w77)).symm), tr_cs t81 (trC_3_1 (or59 w71) (or43 w77))⟩, fun h => absurd (or151 c6 w77 z3.1 z3.2 kor4) h⟩⟩)
          by_cases w82 : x2.toInt = 2
          ·
            refine ko_eq (x1 := (35, [(0, .ref 94), (1, .int x1), (2, .int x2), (3, .int x3)], [.int 0, .int x3, .int 2, .int 3, .int x1, .ref 94], (0, 0), ks (ku i 6019 0) a q r)) (by rw [(kj_eq w82 (by decide) : x2 = 2)]) ?_
            refine ko_callI mi_k12.1 (pc := 35) (ls := [(0, .ref 94), (1, .int x1), (2, .int x2), (3, .int x3)]) (st := [.int 0, .int x3, .int 2, .int 3, .int x1, .ref 94]) (h := ks (ku i 6019 0) a q r) (i := (.invokevirtual 35, 3, 13, 0, 9, 0, 297)) (mi_k12.2 _ _ (by rfl)) (ft_invS mi_pq13 (by rfl)) (cy := mi_c13) mi_pq13 rfl (ke13_94_l13_l22_K3 hJ1.I hJ1.R x1 x3 0 (or136 fi_6017.2 z3.1 z3.2) (or59 w71) (or150 kor0) (or112 kor0)) (by decide) ?_
            intro vg83 ig83 ag83 qg83 rg83 kg83 hg83
            have hGg83 := kG_call hJ1 kg83 (by decide +kernel)
            obtain ⟨hg83, og83⟩ := hg83
            have fig83_6019 : ((0 : Int) ≤ (ig83 6019).toInt) ∧ ((ig83 6019).toInt ≤ 1000) := hGg83.I.1 6019
            have z84 : (ig83 6019).toInt = ((0 : Int32).toInt + 2) := hg83
            have q85 : vg83 = av3_2_3 x1 x3 := og83.1
            have t86 : trS (a 96) (0 : Int32) (ag83 96) (ig83 6019) [40, 11] := og83.2
            exact ft_ret mi_k12 (by rfl) (hP vg83 _ _ _ _ hGg83 ⟨trivial, ⟨fun _ => ⟨((q85).trans (avV_3_2 (or59 w71) (or55 w82)).symm), tr_cs t86 (trC_3_2 (or59 w71) (or55 w82))⟩, fun h => absurd (or154 c6 w82 z3.1 z3.2 kor4) h⟩⟩)
          by_cases w87 : x2.toInt = 3
          ·
            refine ko_eq (x1 := (35, [(0, .ref 94), (1, .int x1), (2, .int x2), (3, .int x3)], [.int 0, .int x3, .int 3, .int 3, .int x1, .ref 94], (0, 0), ks (ku i 6019 0) a q r)) (by rw [(kj_eq w87 (by decide) : x2 = 3)]) ?_
            refine ko_callI mi_k12.1 (pc := 35) (ls := [(0, .ref 94), (1, .int x1), (2, .int x2), (3, .int x3)]) (st := [.int 0, .int x3, .int 3, .int 3, .int x1, .ref 94]) (h := ks (ku i 6019 0) a q r) (i := (.invokevirtual 35, 3, 13, 0, 9, 0, 297)) (mi_k12.2 _ _ (by rfl)) (ft_invS mi_pq13 (by rfl)) (cy := mi_c13) mi_pq13 rfl (ke13_94_l13_l23_K3 hJ1.I hJ1.R x1 x3 0 (or136 fi_6017.2 z3.1 z3.2) (or59 w71) (or230 kor0) (or68 kor0)) (by decide) ?_
            intro vg88 ig88 ag88 qg88 rg88 kg88 hg88
            have hGg88 := kG_call hJ1 kg88 (by decide +kernel)
            obtain ⟨hg88, og88⟩ := hg88
            have fig88_6019 : ((0 : Int) ≤ (ig88 6019).toInt) ∧ ((ig88 6019).toInt ≤ 1000) := hGg88.I.1 6019
            have z89 : (ig88 6019).toInt = ((0 : Int32).toInt + 7) := hg88
            have q90 : vg88 = av0_3_3 x1 x3 := og88.1
            have t91 : trS (a 96) (0 : Int32) (ag88 96) (ig88 6019) [2, 41, 30, 10, 1, 40, 11] := og88.2
            exact ft_ret mi_k12 (by rfl) (hP vg88 _ _ _ _ hGg88 ⟨trivial, ⟨fun _ => ⟨((q90).trans (avV_3_3 (or59 w71) (or170 c6 w87 kor4)).symm), tr_cs t91 (trC_3_3 (or59 w71) (or170 c6 w87 kor4))⟩, fun h => absurd (or171 c6 w87 z3.1 z3.2 kor4) h⟩⟩)
          exact (or199 c5 c6 w72 w77 w82 w87 kor0 kor4).elim
        by_cases w92 : ((a 95).getD x1.toNatClampNeg 0).toInt = 4
        ·
          refine ko_eq (x1 := (35, [(0, .ref 94), (1, .int x1), (2, .int x2), (3, .int x3)], [.int 0, .int x3, .int x2, .int 4, .int x1, .ref 94], (0, 0), ks (ku i 6019 0) a q r)) (by rw [(kj_eq w92 (by decide) : ((a 95).getD x1.toNatClampNeg 0) = 4)]) ?_
          by_cases w93 : x2.toInt = 0
          ·
            refine ko_eq (x1 := (35, [(0, .ref 94), (1, .int x1), (2, .int x2), (3, .int x3)], [.int 0, .int x3, .int 0, .int 4, .int x1, .ref 94], (0, 0), ks (ku i 6019 0) a q r)) (by rw [(kj_eq w93 (by decide) : x2 = 0)]) ?_
            refine ko_callI mi_k12.1 (pc := 35) (ls := [(0, .ref 94), (1, .int x1), (2, .int x2), (3, .int x3)]) (st := [.int 0, .int x3, .int 0, .int 4, .int x1, .ref 94]) (h := ks (ku i 6019 0) a q r) (i := (.invokevirtual 35, 3, 13, 0, 9, 0, 297)) (mi_k12.2 _ _ (by rfl)) (ft_invS mi_pq13 (by rfl)) (cy := mi_c13) mi_pq13 rfl (ke13_94_l14_l20_K4 hJ1.I hJ1.R x1 x3 0 (or136 fi_6017.2 z3.1 z3.2) (or71 w92) (or150 kor0) (or112 kor0)) (by decide) ?_
            intro vg94 ig94 ag94 qg94 rg94 kg94 hg94
            have hGg94 := kG_call hJ1 kg94 (by decide +kernel)
            obtain ⟨hg94, og94⟩ := hg94
            have fig94_6019 : ((0 : Int) ≤ (ig94 6019).toInt) ∧ ((ig94 6019).toInt ≤ 1000) := hGg94.I.1 6019
            have z95 : (ig94 6019).toInt = ((0 : Int32).toInt + 2) := hg94
            have q96 : vg94 = av1_0_4 x1 x3 := og94.1
            have t97 : trS (a 96) (0 : Int32) (ag94 96) (ig94 6019) [20, 1] := og94.2
            exact ft_ret mi_k12 (by rfl) (hP vg94 _ _ _ _ hGg94 ⟨trivial, ⟨fun _ => ⟨((q96).trans (avV_4_0 (or71 w92) (or138 c5 w93 kor0)).symm), tr_cs t97 (trC_4_0 (or71 w92) (or138 c5 w93 kor0))⟩, fun h => absurd (or139 c5 c6 z3.1 z3.2 kor0 kor4) h⟩⟩)
          by_cases w98 : x2.toInt = 1
          ·
            refine ko_eq (x1 := (35, [(0, .ref 94), (1, .int x1), (2, .int x2), (3, .int x3)], [.int 0, .int x3, .int 1, .int 4, .int x1, .ref 94], (0, 0), ks (ku i 6019 0) a q r)) (by rw [(kj_eq w98 (by decide) : x2 = 1)]) ?_
            refine ko_callI mi_k12.1 (pc := 35) (ls := [(0, .ref 94), (1, .int x1), (2, .int x2), (3, .int x3)]) (st := [.int 0, .int x3, .int 1, .int 4, .int x1, .ref 94]) (h := ks (ku i 6019 0) a q r) (i := (.invokevirtual 35, 3, 13, 0, 9, 0, 297)) (mi_k12.2 _ _ (by rfl)) (ft_invS mi_pq13 (by rfl)) (cy := mi_c13) mi_pq13 rfl (ke13_94_l14_l21_K4 hJ1.I hJ1.R x1 x3 0 (or136 fi_6017.2 z3.1 z3.2) (or71 w92) (or169 kor0) (or115 kor0)) (by decide) ?_
            intro vg99 ig99 ag99 qg99 rg99 kg99 hg99
            have hGg99 := kG_call hJ1 kg99 (by decide +kernel)
            obtain ⟨hg99, og99⟩ := hg99
            have fig99_6019 : ((0 : Int) ≤ (ig99 6019).toInt) ∧ ((ig99 6019).toInt ≤ 1000) := hGg99.I.1 6019
            have z100 : (ig99 6019).toInt = ((0 : Int32).toInt + 3) := hg99
            have q101 : vg99 = av0_1_4 x1 x3 := og99.1
            have t102 : trS (a 96) (0 : Int32) (ag99 96) (ig99 6019) [10, 20, 1] := og99.2
            exact ft_ret mi_k12 (by rfl) (hP vg99 _ _ _ _ hGg99 ⟨trivial, ⟨fun _ => ⟨((q101).trans (avV_4_1 (or71 w92) (or43 w98)).symm), tr_cs t102 (trC_4_1 (or71 w92) (or43 w98))⟩, fun h => absurd (or151 c6 w98 z3.1 z3.2 kor4) h⟩⟩)
          by_cases w103 : x2.toInt = 2
          ·
            refine ko_eq (x1 := (35, [(0, .ref 94), (1, .int x1), (2, .int x2), (3, .int x3)], [.int 0, .int x3, .int 2, .int 4, .int x1, .ref 94], (0, 0), ks (ku i 6019 0) a q r)) (by rw [(kj_eq w103 (by decide) : x2 = 2)]) ?_
            refine ko_callI mi_k12.1 (pc := 35) (ls := [(0, .ref 94), (1, .int x1), (2, .int x2), (3, .int x3)]) (st := [.int 0, .int x3, .int 2, .int 4, .int x1, .ref 94]) (h := ks (ku i 6019 0) a q r) (i := (.invokevirtual 35, 3, 13, 0, 9, 0, 297)) (mi_k12.2 _ _ (by rfl)) (ft_invS mi_pq13 (by rfl)) (cy := mi_c13) mi_pq13 rfl (ke13_94_l14_l22_K4 hJ1.I hJ1.R x1 x3 0 (or136 fi_6017.2 z3.1 z3.2) (or71 w92) (or169 kor0) (or34 kor0)) (by decide) ?_
            intro vg104 ig104 ag104 qg104 rg104 kg104 hg104
            have hGg104 := kG_call hJ1 kg104 (by decide +kernel)
            obtain ⟨hg104, og104⟩ := hg104
            have fig104_6019 : ((0 : Int) ≤ (ig104 6019).toInt) ∧ ((ig104 6019).toInt ≤ 1000) := hGg104.I.1 6019
            have z105 : (ig104 6019).toInt = ((0 : Int32).toInt + 4) := hg104
            have q106 : vg104 = av4_2_4 x1 x3 := og104.1
            have t107 : trS (a 96) (0 : Int32) (ag104 96) (ig104 6019) [50, 11, 20, 1] := og104.2
            exact ft_ret mi_k12 (by rfl) (hP vg104 _ _ _ _ hGg104 ⟨trivial, ⟨fun _ => ⟨((q106).trans (avV_4_2 (or71 w92) (or55 w103)).symm), tr_cs t107 (trC_4_2 (or71 w92) (or55 w103))⟩, fun h => absurd (or154 c6 w103 z3.1 z3.2 kor4) h⟩⟩)
          by_cases w108 : x2.toInt = 3
          ·
            refine ko_eq (x1 := (35, [(0, .ref 94), (1, .int x1), (2, .int x2), (3, .int x3)], [.int 0, .int x3, .int 3, .int 4, .int x1, .ref 94], (0, 0), ks (ku i 6019 0) a q r)) (by rw [(kj_eq w108 (by decide) : x2 = 3)]) ?_
            refine ko_callI mi_k12.1 (pc := 35) (ls := [(0, .ref 94), (1, .int x1), (2, .int x2), (3, .int x3)]) (st := [.int 0, .int x3, .int 3, .int 4, .int x1, .ref 94]) (h := ks (ku i 6019 0) a q r) (i := (.invokevirtual 35, 3, 13, 0, 9, 0, 297)) (mi_k12.2 _ _ (by rfl)) (ft_invS mi_pq13 (by rfl)) (cy := mi_c13) mi_pq13 rfl (ke13_94_l14_l23_K4 hJ1.I hJ1.R x1 x3 0 (or136 fi_6017.2 z3.1 z3.2) (or71 w92) (or198 kor0) (or83 kor0)) (by decide) ?_
            intro vg109 ig109 ag109 qg109 rg109 kg109 hg109
            have hGg109 := kG_call hJ1 kg109 (by decide +kernel)
            obtain ⟨hg109, og109⟩ := hg109
            have fig109_6019 : ((0 : Int) ≤ (ig109 6019).toInt) ∧ ((ig109 6019).toInt ≤ 1000) := hGg109.I.1 6019
            have z110 : (ig109 6019).toInt = ((0 : Int32).toInt + 8) := hg109
            have q111 : vg109 = av0_3_4 x1 x3 := og109.1
            have t112 : trS (a 96) (0 : Int32) (ag109 96) (ig109 6019) [2, 10, 20, 1, 50, 11, 20, 1] := og109.2
            exact ft_ret mi_k12 (by rfl) (hP vg109 _ _ _ _ hGg109 ⟨trivial, ⟨fun _ => ⟨((q111).trans (avV_4_3 (or71 w92) (or170 c6 w108 kor4)).symm), tr_cs t112 (trC_4_3 (or71 w92) (or170 c6 w108 kor4))⟩, fun h => absurd (or171 c6 w108 z3.1 z3.2 kor4) h⟩⟩)
          exact (or254 c5 c6 w103 w108 w93 w98 kor0 kor4).elim
        by_cases w113 : ((a 95).getD x1.toNatClampNeg 0).toInt = 5
        ·
          refine ko_eq (x1 := (35, [(0, .ref 94), (1, .int x1), (2, .int x2), (3, .int x3)], [.int 0, .int x3, .int x2, .int 5, .int x1, .ref 94], (0, 0), ks (ku i 6019 0) a q r)) (by rw [(kj_eq w113 (by decide) : ((a 95).getD x1.toNatClampNeg 0) = 5)]) ?_
          by_cases w114 : x2.toInt = 0
          ·
            refine ko_eq (x1 := (35, [(0, .ref 94), (1, .int x1), (2, .int x2), (3, .int x3)], [.int 0, .int x3, .int 0, .int 5, .int x1, .ref 94], (0, 0), ks (ku i 6019 0) a q r)) (by rw [(kj_eq w114 (by decide) : x2 = 0)]) ?_
            refine ko_callI mi_k12.1 (pc := 35) (ls := [(0, .ref 94), (1, .int x1), (2, .int x2), (3, .int x3)]) (st := [.int 0, .int x3, .int 0, .int 5, .int x1, .ref 94]) (h := ks (ku i 6019 0) a q r) (i := (.invokevirtual 35, 3, 13, 0, 9, 0, 297)) (mi_k12.2 _ _ (by rfl)) (ft_invS mi_pq13 (by rfl)) (cy := mi_c13) mi_pq13 rfl (ke13_94_l15_l20_K5 hJ1.I hJ1.R x1 x3 0 (or136 fi_6017.2 z3.1 z3.2) (or85 w113) (or137 kor0) (or109 kor0)) (by decide) ?_
            intro vg115 ig115 ag115 qg115 rg115 kg115 hg115
            have hGg115 := kG_call hJ1 kg115 (by decide +kernel)
            obtain ⟨hg115, og115⟩ := hg115
            have fig115_6019 : ((0 : Int) ≤ (ig115 6019).toInt) ∧ ((ig115 6019).toInt ≤ 1000) := hGg115.I.1 6019
            have z116 : (ig115 6019).toInt = ((0 : Int32).toInt + 1) := hg115
            have q117 : vg115 = av0_0_5 x1 x3 := og115.1
            have t118 : trS (a 96) (0 : Int32) (ag115 96) (ig115 6019) [1] := og115.2
            exact ft_ret mi_k12 (by rfl) (hP vg115 _ _ _ _ hGg115 ⟨trivial, ⟨fun _ => ⟨((q117).trans (avV_5_0 (or85 w113) (or138 c5 w114 kor0)).symm), tr_cs t118 (trC_5_0 (or85 w113) (or138 c5 w114 kor0))⟩, fun h => absurd (or139 c5 c6 z3.1 z3.2 kor0 kor4) h⟩⟩)
          by_cases w119 : x2.toInt = 1
          ·
            refine ko_eq (x1 := (35, [(0, .ref 94), (1, .int x1), (2, .int x2), (3, .int x3)], [.int 0, .int x3, .int 1, .int 5, .int x1, .ref 94], (0, 0), ks (ku i 6019 0) a q r)) (by rw [(kj_eq w119 (by decide) : x2 = 1)]) ?_
            refine ko_callI mi_k12.1 (pc := 35) (ls := [(0, .ref 94), (1, .int x1), (2, .int x2), (3, .int x3)]) (st := [.int 0, .int x3, .int 1, .int 5, .int x1, .ref 94]) (h := ks (ku i 6019 0) a q r) (i := (.invokevirtual 35, 3, 13, 0, 9, 0, 297)) (mi_k12.2 _ _ (by rfl)) (ft_invS mi_pq13 (by rfl)) (cy := mi_c13) mi_pq13 rfl (ke13_94_l15_l21_K5 hJ1.I hJ1.R x1 x3 0 (or136 fi_6017.2 z3.1 z3.2) (or85 w113) (or198 kor0) (or34 kor0)) (by decide) ?_
            intro vg120 ig120 ag120 qg120 rg120 kg120 hg120
            have hGg120 := kG_call hJ1 kg120 (by decide +kernel)
            obtain ⟨hg120, og120⟩ := hg120
            have fig120_6019 : ((0 : Int) ≤ (ig120 6019).toInt) ∧ ((ig120 6019).toInt ≤ 1000) := hGg120.I.1 6019
            have z121 : (ig120 6019).toInt = ((0 : Int32).toInt + 4) := hg120
            have q122 : vg120 = av3_1_5 x1 x3 := og120.1
            have t123 : trS (a 96) (0 : Int32) (ag120 96) (ig120 6019) [41, 30, 10, 1] := og120.2
            exact ft_ret mi_k12 (by rfl) (hP vg120 _ _ _ _ hGg120 ⟨trivial, ⟨fun _ => ⟨((q122).trans (avV_5_1 (or85 w113) (or43 w119)).symm), tr_cs t123 (trC_5_1 (or85 w113) (or43 w119))⟩, fun h => absurd (or151 c6 w119 z3.1 z3.2 kor4) h⟩⟩)
          by_cases w124 : x2.toInt = 2
          ·
            refine ko_eq (x1 := (35, [(0, .ref 94), (1, .int x1), (2, .int x2), (3, .int x3)], [.int 0, .int x3, .int 2, .int 5, .int x1, .ref 94], (0, 0), ks (ku i 6019 0) a q r)) (by rw [(kj_eq w124 (by decide) : x2 = 2)]) ?_
            refine ko_callI mi_k12.1 (pc := 35) (ls := [(0, .ref 94), (1, .int x1), (2, .int x2), (3, .int x3)]) (st := [.int 0, .int x3, .int 2, .int 5, .int x1, .ref 94]) (h := ks (ku i 6019 0) a q r) (i := (.invokevirtual 35, 3, 13, 0, 9, 0, 297)) (mi_k12.2 _ _ (by rfl)) (ft_invS mi_pq13 (by rfl)) (cy := mi_c13) mi_pq13 rfl (ke13_94_l15_l22_K5 hJ1.I hJ1.R x1 x3 0 (or136 fi_6017.2 z3.1 z3.2) (or85 w113) (or150 kor0) (or112 kor0)) (by decide) ?_
            intro vg125 ig125 ag125 qg125 rg125 kg125 hg125
            have hGg125 := kG_call hJ1 kg125 (by decide +kernel)
            obtain ⟨hg125, og125⟩ := hg125
            have fig125_6019 : ((0 : Int) ≤ (ig125 6019).toInt) ∧ ((ig125 6019).toInt ≤ 1000) := hGg125.I.1 6019
            have z126 : (ig125 6019).toInt = ((0 : Int32).toInt + 2) := hg125
            have q127 : vg125 = av3_2_5 x1 x3 := og125.1
            have t128 : trS (a 96) (0 : Int32) (ag125 96) (ig125 6019) [40, 11] := og125.2
            exact ft_ret mi_k12 (by rfl) (hP vg125 _ _ _ _ hGg125 ⟨trivial, ⟨fun _ => ⟨((q127).trans (avV_5_2 (or85 w113) (or55 w124)).symm), tr_cs t128 (trC_5_2 (or85 w113) (or55 w124))⟩, fun h => absurd (or154 c6 w124 z3.1 z3.2 kor4) h⟩⟩)
          by_cases w129 : x2.toInt = 3
          ·
            refine ko_eq (x1 := (35, [(0, .ref 94), (1, .int x1), (2, .int x2), (3, .int x3)], [.int 0, .int x3, .int 3, .int 5, .int x1, .ref 94], (0, 0), ks (ku i 6019 0) a q r)) (by rw [(kj_eq w129 (by decide) : x2 = 3)]) ?_
            refine ko_callI mi_k12.1 (pc := 35) (ls := [(0, .ref 94), (1, .int x1), (2, .int x2), (3, .int x3)]) (st := [.int 0, .int x3, .int 3, .int 5, .int x1, .ref 94]) (h := ks (ku i 6019 0) a q r) (i := (.invokevirtual 35, 3, 13, 0, 9, 0, 297)) (mi_k12.2 _ _ (by rfl)) (ft_invS mi_pq13 (by rfl)) (cy := mi_c13) mi_pq13 rfl (ke13_94_l15_l23_K5 hJ1.I hJ1.R x1 x3 0 (or136 fi_6017.2 z3.1 z3.2) (or85 w113) (or267 kor0) (or83 kor0)) (by decide) ?_
            intro vg130 ig130 ag130 qg130 rg130 kg130 hg130
            have hGg130 := kG_call hJ1 kg130 (by decide +kernel)
            obtain ⟨hg130, og130⟩ := hg130
            have fig130_6019 : ((0 : Int) ≤ (ig130 6019).toInt) ∧ ((ig130 6019).toInt ≤ 1000) := hGg130.I.1 6019
            have z131 : (ig130 6019).toInt = ((0 : Int32).toInt + 8) := hg130
            have q132 : vg130 = av5_3_5 x1 x3 := og130.1
            have t133 : trS (a 96) (0 : Int32) (ag130 96) (ig130 6019) [60, 2, 41, 30, 10, 1, 40, 11] := og130.2
            exact ft_ret mi_k12 (by rfl) (hP vg130 _ _ _ _ hGg130 ⟨trivial, ⟨fun _ => ⟨((q132).trans (avV_5_3 (or85 w113) (or170 c6 w129 kor4)).symm), tr_cs t133 (trC_5_3 (or85 w113) (or170 c6 w129 kor4))⟩, fun h => absurd (or171 c6 w129 z3.1 z3.2 kor4) h⟩⟩)
          exact (or199 c5 c6 w114 w119 w124 w129 kor0 kor4).elim
        by_cases w134 : ((a 95).getD x1.toNatClampNeg 0).toInt = 6
        ·
          refine ko_eq (x1 := (35, [(0, .ref 94), (1, .int x1), (2, .int x2), (3, .int x3)], [.int 0, .int x3, .int x2, .int 6, .int x1, .ref 94], (0, 0), ks (ku i 6019 0) a q r)) (by rw [(kj_eq w134 (by decide) : ((a 95).getD x1.toNatClampNeg 0) = 6)]) ?_
          by_cases w135 : x2.toInt = 0
          ·
            refine ko_eq (x1 := (35, [(0, .ref 94), (1, .int x1), (2, .int x2), (3, .int x3)], [.int 0, .int x3, .int 0, .int 6, .int x1, .ref 94], (0, 0), ks (ku i 6019 0) a q r)) (by rw [(kj_eq w135 (by decide) : x2 = 0)]) ?_
            refine ko_callI mi_k12.1 (pc := 35) (ls := [(0, .ref 94), (1, .int x1), (2, .int x2), (3, .int x3)]) (st := [.int 0, .int x3, .int 0, .int 6, .int x1, .ref 94]) (h := ks (ku i 6019 0) a q r) (i := (.invokevirtual 35, 3, 13, 0, 9, 0, 297)) (mi_k12.2 _ _ (by rfl)) (ft_invS mi_pq13 (by rfl)) (cy := mi_c13) mi_pq13 rfl (ke13_94_l16_l20_K6 hJ1.I hJ1.R x1 x3 0 (or136 fi_6017.2 z3.1 z3.2) (or92 w134) (or150 kor0) (or112 kor0)) (by decide) ?_
            intro vg136 ig136 ag136 qg136 rg136 kg136 hg136
            have hGg136 := kG_call hJ1 kg136 (by decide +kernel)
            obtain ⟨hg136, og136⟩ := hg136
            have fig136_6019 : ((0 : Int) ≤ (ig136 6019).toInt) ∧ ((ig136 6019).toInt ≤ 1000) := hGg136.I.1 6019
            have z137 : (ig136 6019).toInt = ((0 : Int32).toInt + 2) := hg136
            have q138 : vg136 = av6_0_6 x1 x3 := og136.1
            have t139 : trS (a 96) (0 : Int32) (ag136 96) (ig136 6019) [70, 1] := og136.2
            exact ft_ret mi_k12 (by rfl) (hP vg136 _ _ _ _ hGg136 ⟨trivial, ⟨fun _ => ⟨((q138).trans (avV_6_0 (or92 w134) (or138 c5 w135 kor0)).symm), tr_cs t139 (trC_6_0 (or92 w134) (or138 c5 w135 kor0))⟩, fun h => absurd (or139 c5 c6 z3.1 z3.2 kor0 kor4) h⟩⟩)
          by_cases w140 : x2.toInt = 1
          ·
            refine ko_eq (x1 := (35, [(0, .ref 94), (1, .int x1), (2, .int x2), (3, .int x3)], [.int 0, .int x3, .int 1, .int 6, .int x1, .ref 94], (0, 0), ks (ku i 6019 0) a q r)) (by rw [(kj_eq w140 (by decide) : x2 = 1)]) ?_
            refine ko_callI mi_k12.1 (pc := 35) (ls := [(0, .ref 94), (1, .int x1), (2, .int x2), (3, .int x3)]) (st := [.int 0, .int x3, .int 1, .int 6, .int x1, .ref 94]) (h := ks (ku i 6019 0) a q r) (i := (.invokevirtual 35, 3, 13, 0, 9, 0, 297)) (mi_k12.2 _ _ (by rfl)) (ft_invS mi_pq13 (by rfl)) (cy := mi_c13) mi_pq13 rfl (ke13_94_l16_l21_K6 hJ1.I hJ1.R x1 x3 0 (or136 fi_6017.2 z3.1 z3.2) (or92 w134) (or169 kor0) (or115 kor0)) (by decide) ?_
            intro vg141 ig141 ag141 qg141 rg141 kg141 hg141
            have hGg141 := kG_call hJ1 kg141 (by decide +kernel)
            obtain ⟨hg141, og141⟩ := hg141
            have fig141_6019 : ((0 : Int) ≤ (ig141 6019).toInt) ∧ ((ig141 6019).toInt ≤ 1000) := hGg141.I.1 6019
            have z142 : (ig141 6019).toInt = ((0 : Int32).toInt + 3) := hg141
            have q143 : vg141 = av0_1_6 x1 x3 := og141.1
            have t144 : trS (a 96) (0 : Int32) (ag141 96) (ig141 6019) [10, 70, 1] := og141.2
            exact ft_ret mi_k12 (by rfl) (hP vg141 _ _ _ _ hGg141 ⟨trivial, ⟨fun _ => ⟨((q143).trans (avV_6_1 (or92 w134) (or43 w140)).symm), tr_cs t144 (trC_6_1 (or92 w134) (or43 w140))⟩, fun h => absurd (or151 c6 w140 z3.1 z3.2 kor4) h⟩⟩)
          by_cases w145 : x2.toInt = 2
          ·
            refine ko_eq (x1 := (35, [(0, .ref 94), (1, .int x1), (2, .int x2), (3, .int x3)], [.int 0, .int x3, .int 2, .int 6, .int x1, .ref 94], (0, 0), ks (ku i 6019 0) a q r)) (by rw [(kj_eq w145 (by decide) : x2 = 2)]) ?_
            refine ko_callI mi_k12.1 (pc := 35) (ls := [(0, .ref 94), (1, .int x1), (2, .int x2), (3, .int x3)]) (st := [.int 0, .int x3, .int 2, .int 6, .int x1, .ref 94]) (h := ks (ku i 6019 0) a q r) (i := (.invokevirtual 35, 3, 13, 0, 9, 0, 297)) (mi_k12.2 _ _ (by rfl)) (ft_invS mi_pq13 (by rfl)) (cy := mi_c13) mi_pq13 rfl (ke13_94_l16_l22_K6 hJ1.I hJ1.R x1 x3 0 (or136 fi_6017.2 z3.1 z3.2) (or92 w134) (or137 kor0) (or109 kor0)) (by decide) ?_
            intro vg146 ig146 ag146 qg146 rg146 kg146 hg146
            have hGg146 := kG_call hJ1 kg146 (by decide +kernel)
            obtain ⟨hg146, og146⟩ := hg146
            have fig146_6019 : ((0 : Int) ≤ (ig146 6019).toInt) ∧ ((ig146 6019).toInt ≤ 1000) := hGg146.I.1 6019
            have z147 : (ig146 6019).toInt = ((0 : Int32).toInt + 1) := hg146
            have q148 : vg146 = av0_2_6 x1 x3 := og146.1
            have t149 : trS (a 96) (0 : Int32) (ag146 96) (ig146 6019) [11] := og146.2
            exact ft_ret mi_k12 (by rfl) (hP vg146 _ _ _ _ hGg146 ⟨trivial, ⟨fun _ => ⟨((q148).trans (avV_6_2 (or92 w134) (or55 w145)).symm), tr_cs t149 (trC_6_2 (or92 w134) (or55 w145))⟩, fun h => absurd (or154 c6 w145 z3.1 z3.2 kor4) h⟩⟩)
          by_cases w150 : x2.toInt = 3
          ·
            refine ko_eq (x1 := (35, [(0, .ref 94), (1, .int x1), (2, .int x2), (3, .int x3)], [.int 0, .int x3, .int 3, .int 6, .int x1, .ref 94], (0, 0), ks (ku i 6019 0) a q r)) (by rw [(kj_eq w150 (by decide) : x2 = 3)]) ?_
            refine ko_callI mi_k12.1 (pc := 35) (ls := [(0, .ref 94), (1, .int x1), (2, .int x2), (3, .int x3)]) (st := [.int 0, .int x3, .int 3, .int 6, .int x1, .ref 94]) (h := ks (ku i 6019 0) a q r) (i := (.invokevirtual 35, 3, 13, 0, 9, 0, 297)) (mi_k12.2 _ _ (by rfl)) (ft_invS mi_pq13 (by rfl)) (cy := mi_c13) mi_pq13 rfl (ke13_94_l16_l23_K6 hJ1.I hJ1.R x1 x3 0 (or136 fi_6017.2 z3.1 z3.2) (or92 w134) (or198 kor0) (or53 kor0)) (by decide) ?_
            intro vg151 ig151 ag151 qg151 rg151 kg151 hg151
            have hGg151 := kG_call hJ1 kg151 (by decide +kernel)
            obtain ⟨hg151, og151⟩ := hg151
            have fig151_6019 : ((0 : Int) ≤ (ig151 6019).toInt) ∧ ((ig151 6019).toInt ≤ 1000) := hGg151.I.1 6019
            have z152 : (ig151 6019).toInt = ((0 : Int32).toInt + 5) := hg151
            have q153 : vg151 = av0_3_6 x1 x3 := og151.1
            have t154 : trS (a 96) (0 : Int32) (ag151 96) (ig151 6019) [2, 10, 70, 1, 11] := og151.2
            exact ft_ret mi_k12 (by rfl) (hP vg151 _ _ _ _ hGg151 ⟨trivial, ⟨fun _ => ⟨((q153).trans (avV_6_3 (or92 w134) (or170 c6 w150 kor4)).symm), tr_cs t154 (trC_6_3 (or92 w134) (or170 c6 w150 kor4))⟩, fun h => absurd (or171 c6 w150 z3.1 z3.2 kor4) h⟩⟩)
          exact (or199 c5 c6 w135 w140 w145 w150 kor0 kor4).elim
        by_cases w155 : ((a 95).getD x1.toNatClampNeg 0).toInt = 7
        ·
          refine ko_eq (x1 := (35, [(0, .ref 94), (1, .int x1), (2, .int x2), (3, .int x3)], [.int 0, .int x3, .int x2, .int 7, .int x1, .ref 94], (0, 0), ks (ku i 6019 0) a q r)) (by rw [(kj_eq w155 (by decide) : ((a 95).getD x1.toNatClampNeg 0) = 7)]) ?_
          by_cases w156 : x2.toInt = 0
          ·
            refine ko_eq (x1 := (35, [(0, .ref 94), (1, .int x1), (2, .int x2), (3, .int x3)], [.int 0, .int x3, .int 0, .int 7, .int x1, .ref 94], (0, 0), ks (ku i 6019 0) a q r)) (by rw [(kj_eq w156 (by decide) : x2 = 0)]) ?_
            refine ko_callI mi_k12.1 (pc := 35) (ls := [(0, .ref 94), (1, .int x1), (2, .int x2), (3, .int x3)]) (st := [.int 0, .int x3, .int 0, .int 7, .int x1, .ref 94]) (h := ks (ku i 6019 0) a q r) (i := (.invokevirtual 35, 3, 13, 0, 9, 0, 297)) (mi_k12.2 _ _ (by rfl)) (ft_invS mi_pq13 (by rfl)) (cy := mi_c13) mi_pq13 rfl (ke13_94_l17_l20_K7 hJ1.I hJ1.R x1 x3 0 (or136 fi_6017.2 z3.1 z3.2) (or106 r7.2 w155) (or150 kor0) (or112 kor0)) (by decide) ?_
            intro vg157 ig157 ag157 qg157 rg157 kg157 hg157
            have hGg157 := kG_call hJ1 kg157 (by decide +kernel)
            obtain ⟨hg157, og157⟩ := hg157
            have fig157_6019 : ((0 : Int) ≤ (ig157 6019).toInt) ∧ ((ig157 6019).toInt ≤ 1000) := hGg157.I.1 6019
            have z158 : (ig157 6019).toInt = ((0 : Int32).toInt + 2) := hg157
            have q159 : vg157 = av1_0_7 x1 x3 := og157.1
            have t160 : trS (a 96) (0 : Int32) (ag157 96) (ig157 6019) [20, 1] := og157.2
            exact ft_ret mi_k12 (by rfl) (hP vg157 _ _ _ _ hGg157 ⟨trivial, ⟨fun _ => ⟨((q159).trans (avV_7_0 (or106 r7.2 w155) (or138 c5 w156 kor0)).symm), tr_cs t160 (trC_7_0 (or106 r7.2 w155) (or138 c5 w156 kor0))⟩, fun h => absurd (or139 c5 c6 z3.1 z3.2 kor0 kor4) h⟩⟩)
          by_cases w161 : x2.toInt = 1
          ·
            refine ko_eq (x1 := (35, [(0, .ref 94), (1, .int x1), (2, .int x2), (3, .int x3)], [.int 0, .int x3, .int 1, .int 7, .int x1, .ref 94], (0, 0), ks (ku i 6019 0) a q r)) (by rw [(kj_eq w161 (by decide) : x2 = 1)]) ?_
            refine ko_callI mi_k12.1 (pc := 35) (ls := [(0, .ref 94), (1, .int x1), (2, .int x2), (3, .int x3)]) (st := [.int 0, .int x3, .int 1, .int 7, .int x1, .ref 94]) (h := ks (ku i 6019 0) a q r) (i := (.invokevirtual 35, 3, 13, 0, 9, 0, 297)) (mi_k12.2 _ _ (by rfl)) (ft_invS mi_pq13 (by rfl)) (cy := mi_c13) mi_pq13 rfl (ke13_94_l17_l21_K7 hJ1.I hJ1.R x1 x3 0 (or136 fi_6017.2 z3.1 z3.2) (or106 r7.2 w155) (or198 kor0) (or83 kor0)) (by decide) ?_
            intro vg162 ig162 ag162 qg162 rg162 kg162 hg162
            have hGg162 := kG_call hJ1 kg162 (by decide +kernel)
            obtain ⟨hg162, og162⟩ := hg162
            have fig162_6019 : ((0 : Int) ≤ (ig162 6019).toInt) ∧ ((ig162 6019).toInt ≤ 1000) := hGg162.I.1 6019
            have z163 : (ig162 6019).toInt = ((0 : Int32).toInt + 8) := hg162
            have q164 : vg162 = av7_1_7 x1 x3 := og162.1
            have t165 : trS (a 96) (0 : Int32) (ag162 96) (ig162 6019) [80, 10, 20, 1, 50, 11, 20, 1] := og162.2
            exact ft_ret mi_k12 (by rfl) (hP vg162 _ _ _ _ hGg162 ⟨trivial, ⟨fun _ => ⟨((q164).trans (avV_7_1 (or106 r7.2 w155) (or43 w161)).symm), tr_cs t165 (trC_7_1 (or106 r7.2 w155) (or43 w161))⟩, fun h => absurd (or151 c6 w161 z3.1 z3.2 kor4) h⟩⟩)
          by_cases w166 : x2.toInt = 2
          ·
            refine ko_eq (x1 := (35, [(0, .ref 94), (1, .int x1), (2, .int x2), (3, .int x3)], [.int 0, .int x3, .int 2, .int 7, .int x1, .ref 94], (0, 0), ks (ku i 6019 0) a q r)) (by rw [(kj_eq w166 (by decide) : x2 = 2)]) ?_
            refine ko_callI mi_k12.1 (pc := 35) (ls := [(0, .ref 94), (1, .int x1), (2, .int x2), (3, .int x3)]) (st := [.int 0, .int x3, .int 2, .int 7, .int x1, .ref 94]) (h := ks (ku i 6019 0) a q r) (i := (.invokevirtual 35, 3, 13, 0, 9, 0, 297)) (mi_k12.2 _ _ (by rfl)) (ft_invS mi_pq13 (by rfl)) (cy := mi_c13) mi_pq13 rfl (ke13_94_l17_l22_K7 hJ1.I hJ1.R x1 x3 0 (or136 fi_6017.2 z3.1 z3.2) (or106 r7.2 w155) (or169 kor0) (or34 kor0)) (by decide) ?_
            intro vg167 ig167 ag167 qg167 rg167 kg167 hg167
            have hGg167 := kG_call hJ1 kg167 (by decide +kernel)
            obtain ⟨hg167, og167⟩ := hg167
            have fig167_6019 : ((0 : Int) ≤ (ig167 6019).toInt) ∧ ((ig167 6019).toInt ≤ 1000) := hGg167.I.1 6019
            have z168 : (ig167 6019).toInt = ((0 : Int32).toInt + 4) := hg167
            have q169 : vg167 = av4_2_7 x1 x3 := og167.1
            have t170 : trS (a 96) (0 : Int32) (ag167 96) (ig167 6019) [50, 11, 20, 1] := og167.2
            exact ft_ret mi_k12 (by rfl) (hP vg167 _ _ _ _ hGg167 ⟨trivial, ⟨fun _ => ⟨((q169).trans (avV_7_2 (or106 r7.2 w155) (or55 w166)).symm), tr_cs t170 (trC_7_2 (or106 r7.2 w155) (or55 w166))⟩, fun h => absurd (or154 c6 w166 z3.1 z3.2 kor4) h⟩⟩)
          by_cases w171 : x2.toInt = 3
          ·
            refine ko_eq (x1 := (35, [(0, .ref 94), (1, .int x1), (2, .int x2), (3, .int x3)], [.int 0, .int x3, .int 3, .int 7, .int x1, .ref 94], (0, 0), ks (ku i 6019 0) a q r)) (by rw [(kj_eq w171 (by decide) : x2 = 3)]) ?_
            refine ko_callI mi_k12.1 (pc := 35) (ls := [(0, .ref 94), (1, .int x1), (2, .int x2), (3, .int x3)]) (st := [.int 0, .int x3, .int 3, .int 7, .int x1, .ref 94]) (h := ks (ku i 6019 0) a q r) (i := (.invokevirtual 35, 3, 13, 0, 9, 0, 297)) (mi_k12.2 _ _ (by rfl)) (ft_invS mi_pq13 (by rfl)) (cy := mi_c13) mi_pq13 rfl (ke13_94_l17_l23_K7 hJ1.I hJ1.R x1 x3 0 (or136 fi_6017.2 z3.1 z3.2) (or106 r7.2 w155) (or267 kor0) (or107 kor0)) (by decide) ?_
            intro vg172 ig172 ag172 qg172 rg172 kg172 hg172
            have hGg172 := kG_call hJ1 kg172 (by decide +kernel)
            obtain ⟨hg172, og172⟩ := hg172
            have fig172_6019 : ((0 : Int) ≤ (ig172 6019).toInt) ∧ ((ig172 6019).toInt ≤ 1000) := hGg172.I.1 6019
            have z173 : (ig172 6019).toInt = ((0 : Int32).toInt + 14) := hg172
            have q174 : vg172 = av7_3_7 x1 x3 := og172.1
            have t175 : trS (a 96) (0 : Int32) (ag172 96) (ig172 6019) [81, 2, 80, 10, 20, 1, 50, 11, 20, 1, 50, 11, 20, 1] := og172.2
            exact ft_ret mi_k12 (by rfl) (hP vg172 _ _ _ _ hGg172 ⟨trivial, ⟨fun _ => ⟨((q174).trans (avV_7_3 (or106 r7.2 w155) (or170 c6 w171 kor4)).symm), tr_cs t175 (trC_7_3 (or106 r7.2 w155) (or170 c6 w171 kor4))⟩, fun h => absurd (or171 c6 w171 z3.1 z3.2 kor4) h⟩⟩)
          exact (or199 c5 c6 w156 w161 w166 w171 kor0 kor4).elim
        exact (or305 r7.1 r7.2 w113 w134 w155 w29 w50 w71 w8 w92).elim
      ·
        have c176 : (4 : Int32).toInt ≤ x2.toInt := kd_ltF c; clear c
        refine ft_go mi_k12 1 23 [(0, .ref 94), (1, .int x1), (2, .int x2), (3, .int x3)] [.int 0] (ku i 6019 0) a q r (by rfl) ?_
        exact ft_ret mi_k12 (by rfl) (hP 0 _ _ _ _ hJ1 ⟨trivial, ⟨fun h => absurd h (or306 c176 kor4), fun _ => ⟨rfl, rfl, rfl⟩⟩⟩)
  ·
    subst eg2
    have fi_6017 : ((0 : Int) ≤ (i 6017).toInt) ∧ ((i 6017).toInt ≤ 50) := hJ1.I.1 6017
    have z177 : ¬ (((0 : Int) ≤ x1.toInt) ∧ (x1.toInt < (i 6017).toInt)) := hg2
    refine ft_go mi_k12 2 23 [(0, .ref 94), (1, .int x1), (2, .int x2), (3, .int x3)] [.int 0] (ku i 6019 0) a q r (by rfl) ?_
    exact ft_ret mi_k12 (by rfl) (hP 0 _ _ _ _ hJ1 ⟨trivial, ⟨fun h => absurd h (or307 z177), fun _ => ⟨rfl, rfl, rfl⟩⟩⟩)
def yw111_0 : kW := ([6019], [96], [], [])
set_option maxRecDepth 100000 in
theorem ke111_0 {i : Nat → Int32} {a : Nat → List Int32} {q : Nat → List Int64} {r : Nat → Nat} (hI : kI i a q) (hr : kr r) (x1 : Int32) (x2 : Int32) (x3 : Int32) : km 21 111 [.ref 0, .int x1, .int x2, .int x3] (ks i a q r) (kVI yw111_0 i a q r (fun v i1 a1 q1 r1 => (True) ∧ (((0 ≤ x1.toInt ∧ x1.toInt < (i 6017).toInt ∧ 0 ≤ x2.toInt ∧ x2.toInt ≤ 3) → v = avV ((a 95).getD x1.toNatClampNeg 0) x2 x1 x3 ∧ trS (a 96) 0 (a1 96) (i1 6019) (trC ((a 95).getD x1.toNatClampNeg 0) x2)) ∧ (¬ (0 ≤ x1.toInt ∧ x1.toInt < (i 6017).toInt ∧ 0 ≤ x2.toInt ∧ x2.toInt ≤ 3) → v = 0 ∧ a1 96 = a 96 ∧ i1 6019 = 0)))) := by
  have hG := kG_self yw111_0 hI hr
  refine km_ofI (q := (mi_h111, mi_c111)) rfl (by decide) (Nat.le_of_ble_eq_true rfl) ?_
  intro P hP
  refine ft_go mi_k111 5 7 [(0, .ref 0), (1, .int x1), (2, .int x2), (3, .int x3)] [.int x3, .int x2, .int x1, .ref 94] i a q r (by rfl) ?_
  refine ko_callI mi_k111.1 (pc := 7) (ls := [(0, .ref 0), (1, .int x1), (2, .int x2), (3, .int x3)]) (st := [.int x3, .int x2, .int x1, .ref 94]) (h := ks i a q r) (i := (.invokevirtual 292, 3, 12, 0, 9, 0, 295)) (mi_k111.2 _ _ (by rfl)) (ft_invS mi_pq12 (by rfl)) (cy := mi_c12) mi_pq12 rfl (ke12_94 hG.I hG.R x1 x2 x3) (by decide) ?_
  intro vg1 ig1 ag1 qg1 rg1 kg1 hg1
  have hGg1 := kG_call hG kg1 (by decide +kernel)
  obtain ⟨hg1, og1⟩ := hg1
  exact ft_ret mi_k111 (by rfl) (hP vg1 _ _ _ _ hGg1 ⟨trivial, og1⟩)
