set_option maxRecDepth 100000 in
theorem ke14_94_l10_K3 {i : Nat → Int32} {a : Nat → List Int32} {q : Nat → List Int64} {r : Nat → Nat} (hI : kI i a q) (hr : kr r) (x1 : Int32) (x3 : Int32) (x4 : Int32) (hp0 : ((0 : Int) ≤ x1.toInt) ∧ (x1.toInt ≤ 49)) (hp1 : ((a 95).getD x1.toNatClampNeg 0).toInt = 3) (hp2 : ((0 : Int) ≤ x4.toInt) ∧ ((x4.toInt + 0) ≤ 39)) (hp3 : ((0 : Int) ≤ (i 6019).toInt) ∧ (((i 6019).toInt + 0) ≤ 900)) : km 1 14 [.ref 94, .int x1, .int 0, .int x3, .int x4] (ks i a q r) (kVI yw14_94_l10_K3 i a q r (fun v i1 a1 q1 r1 => ((i1 6019).toInt = ((i 6019).toInt + 0)) ∧ (v = av0_0_3 x1 x3 ∧ trS (a 96) (i 6019) (a1 96) (i1 6019) []))) := by
  have hG := kG_self yw14_94_l10_K3 hI hr
  refine km_ofI (q := (mi_h14, mi_c14)) rfl (by decide) (Nat.le_of_ble_eq_true rfl) ?_
  intro P hP
  have r1 : ((0 : Int) ≤ ((a 95).getD x1.toNatClampNeg 0).toInt) ∧ (((a 95).getD x1.toNatClampNeg 0).toInt ≤ 7) := hG.I.2.2.1 95 (x1.toNatClampNeg)
  have fi_6019 : ((0 : Int) ≤ (i 6019).toInt) ∧ ((i 6019).toInt ≤ 1000) := hG.I.1 6019
  refine ft_go mi_k14 3 5 [(0, .ref 94), (1, .int x1), (2, .int 0), (3, .int x3), (4, .int x4)] [.int x1, .ref 95] i a q r (by rfl) ?_
  refine ko_iald3 mi_k14.1 (n := 50) (c := 50) (ax := (0, 0, 0, 0, 0)) (mi_k14.2 _ _ (by rfl)) (by rfl) (ksG95 _ _ _ _) (hG.I.2.1 95) rfl (or14 hp0.1) (or20 hp0.2) ?_
  refine ko_eq (x1 := (6, [(0, .ref 94), (1, .int x1), (2, .int 0), (3, .int x3), (4, .int x4)], [.int 3], (0, 0), ks i a q r)) (by rw [(kj_eq (or59 hp1) (by decide) : ((a 95).getD x1.toNatClampNeg 0) = 3)]) ?_
  have b2 : ((-2147483648 : Int) ≤ x3.toInt) ∧ (x3.toInt ≤ 2147483647) := kd_bd x3
  have b3 : ((-2147483648 : Int) ≤ x1.toInt) ∧ (x1.toInt ≤ 2147483647) := kd_bd x1
  refine ft_go mi_k14 6 39 [(5, .int 3), (0, .ref 94), (1, .int x1), (2, .int 0), (3, .int x3), (4, .int x4)] [.int (x3 + x1)] i a q r (by rfl) ?_
  exact ft_ret mi_k14 (by rfl) (hP (x3 + x1) _ _ _ _ hG ⟨or130, ⟨(show (x3 + x1) = av0_0_3 x1 x3 from rfl), tr_nil (or18 fi_6019.1)⟩⟩)
def yw13_94_l13_l20_K3 : kW := ([6019], [96], [], [])
set_option maxRecDepth 100000 in
theorem ke13_94_l13_l20_K3 {i : Nat → Int32} {a : Nat → List Int32} {q : Nat → List Int64} {r : Nat → Nat} (hI : kI i a q) (hr : kr r) (x1 : Int32) (x4 : Int32) (x5 : Int32) (hp0 : ((0 : Int) ≤ x1.toInt) ∧ (x1.toInt ≤ 49)) (hp1 : ((a 95).getD x1.toNatClampNeg 0).toInt = 3) (hp2 : ((0 : Int) ≤ x5.toInt) ∧ ((x5.toInt + 1) ≤ 39)) (hp3 : ((0 : Int) ≤ (i 6019).toInt) ∧ (((i 6019).toInt + 1) ≤ 900)) : km 3 13 [.ref 94, .int x1, .int 3, .int 0, .int x4, .int x5] (ks i a q r) (kVI yw13_94_l13_l20_K3 i a q r (fun v i1 a1 q1 r1 => ((i1 6019).toInt = ((i 6019).toInt + 1)) ∧ (v = av0_0_3 x1 x4 ∧ trS (a 96) (i 6019) (a1 96) (i1 6019) [1]))) := by
  have hG := kG_self yw13_94_l13_l20_K3 hI hr
  refine km_ofI (q := (mi_h13, mi_c13)) rfl (by decide) (Nat.le_of_ble_eq_true rfl) ?_
  intro P hP
  have r1 : ((0 : Int) ≤ ((a 95).getD x1.toNatClampNeg 0).toInt) ∧ (((a 95).getD x1.toNatClampNeg 0).toInt ≤ 7) := hG.I.2.2.1 95 (x1.toNatClampNeg)
  have fi_6019 : ((0 : Int) ≤ (i 6019).toInt) ∧ ((i 6019).toInt ≤ 1000) := hG.I.1 6019
  refine ft_go mi_k13 2 4 [(0, .ref 94), (1, .int x1), (2, .int 3), (3, .int 0), (4, .int x4), (5, .int x5)] [.int 40, .int x5] i a q r (by rfl) ?_
  refine ft_if mi_k13 (decide (x5 < 40)) 9 7 [(0, .ref 94), (1, .int x1), (2, .int 3), (3, .int 0), (4, .int x4), (5, .int x5)] [] (by rfl) (fun c => ?_) (fun c => ?_)
  ·
    have c2 : x5.toInt < (40 : Int32).toInt := kd_lt c; clear c
    refine ft_go mi_k13 2 11 [(0, .ref 94), (1, .int x1), (2, .int 3), (3, .int 0), (4, .int x4), (5, .int x5)] [.int 0, .int 3] i a q r (by rfl) ?_
    refine ko_callPI mi_k13.1 (pc := 11) (ls := [(0, .ref 94), (1, .int x1), (2, .int 3), (3, .int 0), (4, .int x4), (5, .int x5)]) (st := [.int 0, .int 3]) (h := ks i a q r) (i := (.invokestatic 39, 3, 11, 0, 9, 0, 298)) (mi_k13.2 _ _ (by rfl)) (ft_invS mi_pq11 (by rfl)) (cy := mi_c11) mi_pq11 rfl (kc11_l03_l10 hG.I hG.R ) (by decide) ?_
    intro vg3 hg3
    have z4 : vg3.toInt = 0 := hg3
    have evvg3 := kj_eq (or37 z4) (by decide : (0 : Int32).toInt = 0)
    subst evvg3
    refine ft_go mi_k13 5 23 [(6, .int 0), (0, .ref 94), (1, .int x1), (2, .int 3), (3, .int 0), (4, .int x4), (5, .int x5)] [.int (0 * 4), .ref (mi_RO + 3)] i a q r (by rfl) ?_
    refine ko_eq (x1 := (23, [(6, .int 0), (0, .ref 94), (1, .int x1), (2, .int 3), (3, .int 0), (4, .int x4), (5, .int x5)], [.int 0, .ref (mi_RO + 3)], (0, 0), ks i a q r)) (by rw [(by decide : (0 * 4 : Int32) = 0)]) ?_
    refine ft_go mi_k13 2 25 [(6, .int 0), (0, .ref 94), (1, .int x1), (2, .int 3), (3, .int 0), (4, .int x4), (5, .int x5)] [.int (0 + 0), .ref (mi_RO + 3)] i a q r (by rfl) ?_
    refine ko_eq (x1 := (25, [(6, .int 0), (0, .ref 94), (1, .int x1), (2, .int 3), (3, .int 0), (4, .int x4), (5, .int x5)], [.int 0, .ref (mi_RO + 3)], (0, 0), ks i a q r)) (by rw [(by decide : (0 + 0 : Int32) = 0)]) ?_
    refine ko_iaro2 mi_k13.1 (l := [1, 10, 11, 2, 20, 0, 0, 0, 0, 30, 0, 0, 0, 41, 40, 0, 0, 0, 50, 0, 0, 0, 0, 60, 70, 0, 0, 0, 0, 80, 0, 81]) (n := 32) (c := 32) (ax := (0, 0, 0, 0, 0)) (mi_k13.2 _ _ (by rfl)) (by rfl) (by rfl) rfl rfl (or0 kor0) (or126 kor0) ?_
    have r5 : ((0 : Int) ≤ (([1, 10, 11, 2, 20, 0, 0, 0, 0, 30, 0, 0, 0, 41, 40, 0, 0, 0, 50, 0, 0, 0, 0, 60, 70, 0, 0, 0, 0, 80, 0, 81] : List Int32).getD (0 : Int32).toNatClampNeg 0).toInt) ∧ ((([1, 10, 11, 2, 20, 0, 0, 0, 0, 30, 0, 0, 0, 41, 40, 0, 0, 0, 50, 0, 0, 0, 0, 60, 70, 0, 0, 0, 0, 80, 0, 81] : List Int32).getD (0 : Int32).toNatClampNeg 0).toInt ≤ 81) := kro_rng (lo := 0) (hi := 81) (by decide) ((0 : Int32).toNatClampNeg)
    refine ko_eq (x1 := (26, [(6, .int 0), (0, .ref 94), (1, .int x1), (2, .int 3), (3, .int 0), (4, .int x4), (5, .int x5)], [.int 1], (0, 0), ks i a q r)) (by rw [(by decide : (([1, 10, 11, 2, 20, 0, 0, 0, 0, 30, 0, 0, 0, 41, 40, 0, 0, 0, 50, 0, 0, 0, 0, 60, 70, 0, 0, 0, 0, 80, 0, 81] : List Int32).getD (0 : Int32).toNatClampNeg 0) = 1)]) ?_
    refine ft_go mi_k13 4 34 [(7, .int 1), (6, .int 0), (0, .ref 94), (1, .int x1), (2, .int 3), (3, .int 0), (4, .int x4), (5, .int x5)] [.int 24, .int (i 6019)] i a q r (by rfl) ?_
    refine ft_if mi_k13 (decide (24 ≤ (i 6019))) 48 37 [(7, .int 1), (6, .int 0), (0, .ref 94), (1, .int x1), (2, .int 3), (3, .int 0), (4, .int x4), (5, .int x5)] [] (by rfl) (fun c => ?_) (fun c => ?_)
    ·
      have c6 : (24 : Int32).toInt ≤ (i 6019).toInt := kd_le c; clear c
      have s7 : ((i 6019) + 1).toInt = (i 6019).toInt + (1 : Int32).toInt := kd_add (or6 c6 kor24 kor1) (or7 fi_6019.2 kor1)
      have hJ8 := kG_i hG 6019 rfl (v := ((i 6019) + 1)) ⟨(or8 c6 s7 kor24 kor1), (or127 hp3.2 s7 kor1)⟩
      have s9 : (x5 + 1).toInt = x5.toInt + (1 : Int32).toInt := kd_add (or16 hp2.1 kor1) (or128 hp2.2 kor1)
      refine ft_go mi_k13 15 72 [(7, .int 1), (6, .int 0), (0, .ref 94), (1, .int x1), (2, .int 3), (3, .int 0), (4, .int x4), (5, .int x5)] [.int (x5 + 1), .int x4, .int 0, .int x1, .ref 94] (ku i 6019 ((i 6019) + 1)) a q r (by rfl) ?_
      refine ko_callI mi_k13.1 (pc := 72) (ls := [(7, .int 1), (6, .int 0), (0, .ref 94), (1, .int x1), (2, .int 3), (3, .int 0), (4, .int x4), (5, .int x5)]) (st := [.int (x5 + 1), .int x4, .int 0, .int x1, .ref 94]) (h := ks (ku i 6019 ((i 6019) + 1)) a q r) (i := (.invokevirtual 43, 3, 14, 0, 9, 0, 301)) (mi_k13.2 _ _ (by rfl)) (ft_invS mi_pq14 (by rfl)) (cy := mi_c14) mi_pq14 rfl (ke14_94_l10_K3 hJ8.I hJ8.R x1 x4 (x5 + 1) (or25 hp0.1 hp0.2) (or59 hp1) (or131 hp2.1 hp2.2 s9 kor1) (or132 c6 hp3.2 s7 kor24 kor1)) (by decide) ?_
      intro vg10 ig10 ag10 qg10 rg10 kg10 hg10
      have hGg10 := kG_call hJ8 kg10 (by decide +kernel)
      obtain ⟨hg10, og10⟩ := hg10
      have fig10_6019 : ((0 : Int) ≤ (ig10 6019).toInt) ∧ ((ig10 6019).toInt ≤ 1000) := hGg10.I.1 6019
      have efig10_6019 : (ig10 6019).toInt = ((i 6019) + 1).toInt := kg10.ti 6019 rfl
      have z11 : (ig10 6019).toInt = (((i 6019) + 1).toInt + 0) := hg10
      have q12 : vg10 = av0_0_3 x1 x4 := og10.1
      have t13 : trS (a 96) ((i 6019) + 1) (ag10 96) (ig10 6019) [] := og10.2
      exact ft_ret mi_k13 (by rfl) (hP vg10 _ _ _ _ hGg10 ⟨(or133 efig10_6019 s7 kor1), ⟨(show vg10 = av0_0_3 x1 x4 from congrArg (fun z0_ => z0_) q12), (tr_app (es := [1]) (show trS (a 96) (i 6019) (a 96) ((i 6019) + 1) [1] from tr_no (or11 c6 kor24) (or13 c6 kor24) rfl (or12 s7 kor1)) t13 (by rfl))⟩⟩)
    ·
      have c14 : (i 6019).toInt < (24 : Int32).toInt := kd_leF c; clear c
      refine ft_go mi_k13 5 47 [(7, .int 1), (6, .int 0), (0, .ref 94), (1, .int x1), (2, .int 3), (3, .int 0), (4, .int x4), (5, .int x5)] [.int 1, .int (i 6019), .ref 96] i a q r (by rfl) ?_
      refine ko_iast3 mi_k13.1 (n := 24) (c := 24) (ax := (0, 0, 0, 0, 0)) (mi_k13.2 _ _ (by rfl)) (by rfl) (ksG96 _ _ _ _) (ksA96 _ _ _ _) (hG.I.2.1 96) rfl (or14 fi_6019.1) (or15 c14 kor24) ?_
      intro a15 ea15 fa15
      have hJ15 := kG_a3 hG 96 rfl ea15 fa15 (kd_bd _)
      have s16 : ((i 6019) + 1).toInt = (i 6019).toInt + (1 : Int32).toInt := kd_add (or16 fi_6019.1 kor1) (or7 fi_6019.2 kor1)
      have hJ17 := kG_i hJ15 6019 rfl (v := ((i 6019) + 1)) ⟨(or17 fi_6019.1 s16 kor1), (or127 hp3.2 s16 kor1)⟩
      have s18 : (x5 + 1).toInt = x5.toInt + (1 : Int32).toInt := kd_add (or16 hp2.1 kor1) (or128 hp2.2 kor1)
      refine ft_go mi_k13 15 72 [(7, .int 1), (6, .int 0), (0, .ref 94), (1, .int x1), (2, .int 3), (3, .int 0), (4, .int x4), (5, .int x5)] [.int (x5 + 1), .int x4, .int 0, .int x1, .ref 94] (ku i 6019 ((i 6019) + 1)) a15 q r (by rfl) ?_
      have r19 : ((0 : Int) ≤ ((a15 95).getD x1.toNatClampNeg 0).toInt) ∧ (((a15 95).getD x1.toNatClampNeg 0).toInt ≤ 7) := hJ17.I.2.2.1 95 (x1.toNatClampNeg)
      have u20 : ((a15 95).getD x1.toNatClampNeg 0).toInt = ((a 95).getD x1.toNatClampNeg 0).toInt := congrArg (fun z : List Int32 => (z.getD x1.toNatClampNeg 0).toInt) (fa15 95 (by decide))
      refine ko_callI mi_k13.1 (pc := 72) (ls := [(7, .int 1), (6, .int 0), (0, .ref 94), (1, .int x1), (2, .int 3), (3, .int 0), (4, .int x4), (5, .int x5)]) (st := [.int (x5 + 1), .int x4, .int 0, .int x1, .ref 94]) (h := ks (ku i 6019 ((i 6019) + 1)) a15 q r) (i := (.invokevirtual 43, 3, 14, 0, 9, 0, 301)) (mi_k13.2 _ _ (by rfl)) (ft_invS mi_pq14 (by rfl)) (cy := mi_c14) mi_pq14 rfl (ke14_94_l10_K3 hJ17.I hJ17.R x1 x4 (x5 + 1) (or25 hp0.1 hp0.2) (or58 hp1 u20) (or131 hp2.1 hp2.2 s18 kor1) (or134 fi_6019.1 hp3.2 s16 kor1)) (by decide) ?_
      intro vg21 ig21 ag21 qg21 rg21 kg21 hg21
      have hGg21 := kG_call hJ17 kg21 (by decide +kernel)
      obtain ⟨hg21, og21⟩ := hg21
      have fig21_6019 : ((0 : Int) ≤ (ig21 6019).toInt) ∧ ((ig21 6019).toInt ≤ 1000) := hGg21.I.1 6019
      have efig21_6019 : (ig21 6019).toInt = ((i 6019) + 1).toInt := kg21.ti 6019 rfl
      have z22 : (ig21 6019).toInt = (((i 6019) + 1).toInt + 0) := hg21
      have q23 : vg21 = av0_0_3 x1 x4 := og21.1
      have t24 : trS (a15 96) ((i 6019) + 1) (ag21 96) (ig21 6019) [] := og21.2
      exact ft_ret mi_k13 (by rfl) (hP vg21 _ _ _ _ hGg21 ⟨(or133 efig21_6019 s16 kor1), ⟨(show vg21 = av0_0_3 x1 x4 from congrArg (fun z0_ => z0_) q23), (tr_app (es := [1]) (show trS (a 96) (i 6019) (a15 96) ((i 6019) + 1) [1] from tr_st (or18 fi_6019.1) (or15 c14 kor24) (kset_o ea15 rfl) (or12 s16 kor1)) t24 (by rfl))⟩⟩)
  ·
    have c25 : (40 : Int32).toInt ≤ x5.toInt := kd_ltF c; clear c
    exact (or135 c25 hp2.2 kor40).elim
def yw14_94_l11_K3 : kW := ([6019], [96], [], [])
set_option maxRecDepth 100000 in
theorem ke14_94_l11_K3 {i : Nat → Int32} {a : Nat → List Int32} {q : Nat → List Int64} {r : Nat → Nat} (hI : kI i a q) (hr : kr r) (x1 : Int32) (x3 : Int32) (x4 : Int32) (hp0 : ((0 : Int) ≤ x1.toInt) ∧ (x1.toInt ≤ 49)) (hp1 : ((a 95).getD x1.toNatClampNeg 0).toInt = 3) (hp2 : ((0 : Int) ≤ x4.toInt) ∧ ((x4.toInt + 1) ≤ 39)) (hp3 : ((0 : Int) ≤ (i 6019).toInt) ∧ (((i 6019).toInt + 1) ≤ 900)) : km 5 14 [.ref 94, .int x1, .int 1, .int x3, .int x4] (ks i a q r) (kVI yw14_94_l11_K3 i a q r (fun v i1 a1 q1 r1 => ((i1 6019).toInt = ((i 6019).toInt + 1)) ∧ (v = av0_1_3 x1 x3 ∧ trS (a 96) (i 6019) (a1 96) (i1 6019) [1]))) := by
  have hG := kG_self yw14_94_l11_K3 hI hr
  refine km_ofI (q := (mi_h14, mi_c14)) rfl (by decide) (Nat.le_of_ble_eq_true rfl) ?_
  intro P hP
  have r1 : ((0 : Int) ≤ ((a 95).getD x1.toNatClampNeg 0).toInt) ∧ (((a 95).getD x1.toNatClampNeg 0).toInt ≤ 7) := hG.I.2.2.1 95 (x1.toNatClampNeg)
  have fi_6019 : ((0 : Int) ≤ (i 6019).toInt) ∧ ((i 6019).toInt ≤ 1000) := hG.I.1 6019
  refine ft_go mi_k14 3 5 [(0, .ref 94), (1, .int x1), (2, .int 1), (3, .int x3), (4, .int x4)] [.int x1, .ref 95] i a q r (by rfl) ?_
  refine ko_iald3 mi_k14.1 (n := 50) (c := 50) (ax := (0, 0, 0, 0, 0)) (mi_k14.2 _ _ (by rfl)) (by rfl) (ksG95 _ _ _ _) (hG.I.2.1 95) rfl (or14 hp0.1) (or20 hp0.2) ?_
  refine ko_eq (x1 := (6, [(0, .ref 94), (1, .int x1), (2, .int 1), (3, .int x3), (4, .int x4)], [.int 3], (0, 0), ks i a q r)) (by rw [(kj_eq (or59 hp1) (by decide) : ((a 95).getD x1.toNatClampNeg 0) = 3)]) ?_
  refine ft_go mi_k14 9 48 [(5, .int 3), (0, .ref 94), (1, .int x1), (2, .int 1), (3, .int x3), (4, .int x4)] [.int x4, .int x3, .int 0, .int 3, .int x1, .ref 94] i a q r (by rfl) ?_
  refine ko_callI mi_k14.1 (pc := 48) (ls := [(5, .int 3), (0, .ref 94), (1, .int x1), (2, .int 1), (3, .int x3), (4, .int x4)]) (st := [.int x4, .int x3, .int 0, .int 3, .int x1, .ref 94]) (h := ks i a q r) (i := (.invokevirtual 35, 3, 13, 0, 9, 0, 297)) (mi_k14.2 _ _ (by rfl)) (ft_invS mi_pq13 (by rfl)) (cy := mi_c13) mi_pq13 rfl (ke13_94_l13_l20_K3 hG.I hG.R x1 x3 x4 (or25 hp0.1 hp0.2) (or59 hp1) (or144 hp2.1 hp2.2) (or48 fi_6019.1 hp3.2)) (by decide) ?_
  intro vg2 ig2 ag2 qg2 rg2 kg2 hg2
  have hGg2 := kG_call hG kg2 (by decide +kernel)
  obtain ⟨hg2, og2⟩ := hg2
  have fig2_6019 : ((0 : Int) ≤ (ig2 6019).toInt) ∧ ((ig2 6019).toInt ≤ 1000) := hGg2.I.1 6019
  have z3 : (ig2 6019).toInt = ((i 6019).toInt + 1) := hg2
  have q4 : vg2 = av0_0_3 x1 x3 := og2.1
  have t5 : trS (a 96) (i 6019) (ag2 96) (ig2 6019) [1] := og2.2
  have b6 : ((-2147483648 : Int) ≤ vg2.toInt) ∧ (vg2.toInt ≤ 2147483647) := kd_bd vg2
  refine ft_go mi_k14 2 53 [(5, .int 3), (0, .ref 94), (1, .int x1), (2, .int 1), (3, .int x3), (4, .int x4)] [.int (vg2 * 2)] ig2 ag2 qg2 rg2 (by rfl) ?_
  exact ft_ret mi_k14 (by rfl) (hP (vg2 * 2) _ _ _ _ hGg2 ⟨(or24 z3), ⟨(show (vg2 * 2) = av0_1_3 x1 x3 from congrArg (fun z0_ => (z0_ * 2)) q4), t5⟩⟩)
def yw13_94_l10_l21_K3 : kW := ([6019], [96], [], [])
set_option maxRecDepth 100000 in
theorem ke13_94_l10_l21_K3 {i : Nat → Int32} {a : Nat → List Int32} {q : Nat → List Int64} {r : Nat → Nat} (hI : kI i a q) (hr : kr r) (x1 : Int32) (x4 : Int32) (x5 : Int32) (hp0 : ((0 : Int) ≤ x1.toInt) ∧ (x1.toInt ≤ 49)) (hp1 : ((a 95).getD x1.toNatClampNeg 0).toInt = 3) (hp2 : ((0 : Int) ≤ x5.toInt) ∧ ((x5.toInt + 2) ≤ 39)) (hp3 : ((0 : Int) ≤ (i 6019).toInt) ∧ (((i 6019).toInt + 2) ≤ 900)) : km 7 13 [.ref 94, .int x1, .int 0, .int 1, .int x4, .int x5] (ks i a q r) (kVI yw13_94_l10_l21_K3 i a q r (fun v i1 a1 q1 r1 => ((i1 6019).toInt = ((i 6019).toInt + 2)) ∧ (v = av0_1_3 x1 x4 ∧ trS (a 96) (i 6019) (a1 96) (i1 6019) [10, 1]))) := by
  have hG := kG_self yw13_94_l10_l21_K3 hI hr
  refine km_ofI (q := (mi_h13, mi_c13)) rfl (by decide) (Nat.le_of_ble_eq_true rfl) ?_
  intro P hP
  have r1 : ((0 : Int) ≤ ((a 95).getD x1.toNatClampNeg 0).toInt) ∧ (((a 95).getD x1.toNatClampNeg 0).toInt ≤ 7) := hG.I.2.2.1 95 (x1.toNatClampNeg)
  have fi_6019 : ((0 : Int) ≤ (i 6019).toInt) ∧ ((i 6019).toInt ≤ 1000) := hG.I.1 6019
  refine ft_go mi_k13 2 4 [(0, .ref 94), (1, .int x1), (2, .int 0), (3, .int 1), (4, .int x4), (5, .int x5)] [.int 40, .int x5] i a q r (by rfl) ?_
  refine ft_if mi_k13 (decide (x5 < 40)) 9 7 [(0, .ref 94), (1, .int x1), (2, .int 0), (3, .int 1), (4, .int x4), (5, .int x5)] [] (by rfl) (fun c => ?_) (fun c => ?_)
  ·
    have c2 : x5.toInt < (40 : Int32).toInt := kd_lt c; clear c
    refine ft_go mi_k13 2 11 [(0, .ref 94), (1, .int x1), (2, .int 0), (3, .int 1), (4, .int x4), (5, .int x5)] [.int 1, .int 0] i a q r (by rfl) ?_
    refine ko_callPI mi_k13.1 (pc := 11) (ls := [(0, .ref 94), (1, .int x1), (2, .int 0), (3, .int 1), (4, .int x4), (5, .int x5)]) (st := [.int 1, .int 0]) (h := ks i a q r) (i := (.invokestatic 39, 3, 11, 0, 9, 0, 298)) (mi_k13.2 _ _ (by rfl)) (ft_invS mi_pq11 (by rfl)) (cy := mi_c11) mi_pq11 rfl (kc11_l00_l11 hG.I hG.R ) (by decide) ?_
    intro vg3 hg3
    have z4 : vg3.toInt = 0 := hg3
    have evvg3 := kj_eq (or37 z4) (by decide : (0 : Int32).toInt = 0)
    subst evvg3
    refine ft_go mi_k13 5 23 [(6, .int 0), (0, .ref 94), (1, .int x1), (2, .int 0), (3, .int 1), (4, .int x4), (5, .int x5)] [.int (0 * 4), .ref (mi_RO + 3)] i a q r (by rfl) ?_
    refine ko_eq (x1 := (23, [(6, .int 0), (0, .ref 94), (1, .int x1), (2, .int 0), (3, .int 1), (4, .int x4), (5, .int x5)], [.int 0, .ref (mi_RO + 3)], (0, 0), ks i a q r)) (by rw [(by decide : (0 * 4 : Int32) = 0)]) ?_
    refine ft_go mi_k13 2 25 [(6, .int 0), (0, .ref 94), (1, .int x1), (2, .int 0), (3, .int 1), (4, .int x4), (5, .int x5)] [.int (0 + 1), .ref (mi_RO + 3)] i a q r (by rfl) ?_
    refine ko_eq (x1 := (25, [(6, .int 0), (0, .ref 94), (1, .int x1), (2, .int 0), (3, .int 1), (4, .int x4), (5, .int x5)], [.int 1, .ref (mi_RO + 3)], (0, 0), ks i a q r)) (by rw [(by decide : (0 + 1 : Int32) = 1)]) ?_
    refine ko_iaro2 mi_k13.1 (l := [1, 10, 11, 2, 20, 0, 0, 0, 0, 30, 0, 0, 0, 41, 40, 0, 0, 0, 50, 0, 0, 0, 0, 60, 70, 0, 0, 0, 0, 80, 0, 81]) (n := 32) (c := 32) (ax := (0, 0, 0, 0, 0)) (mi_k13.2 _ _ (by rfl)) (by rfl) (by rfl) rfl rfl (or140 kor1) (or141 kor1) ?_
    have r5 : ((0 : Int) ≤ (([1, 10, 11, 2, 20, 0, 0, 0, 0, 30, 0, 0, 0, 41, 40, 0, 0, 0, 50, 0, 0, 0, 0, 60, 70, 0, 0, 0, 0, 80, 0, 81] : List Int32).getD (1 : Int32).toNatClampNeg 0).toInt) ∧ ((([1, 10, 11, 2, 20, 0, 0, 0, 0, 30, 0, 0, 0, 41, 40, 0, 0, 0, 50, 0, 0, 0, 0, 60, 70, 0, 0, 0, 0, 80, 0, 81] : List Int32).getD (1 : Int32).toNatClampNeg 0).toInt ≤ 81) := kro_rng (lo := 0) (hi := 81) (by decide) ((1 : Int32).toNatClampNeg)
    refine ko_eq (x1 := (26, [(6, .int 0), (0, .ref 94), (1, .int x1), (2, .int 0), (3, .int 1), (4, .int x4), (5, .int x5)], [.int 10], (0, 0), ks i a q r)) (by rw [(by decide : (([1, 10, 11, 2, 20, 0, 0, 0, 0, 30, 0, 0, 0, 41, 40, 0, 0, 0, 50, 0, 0, 0, 0, 60, 70, 0, 0, 0, 0, 80, 0, 81] : List Int32).getD (1 : Int32).toNatClampNeg 0) = 10)]) ?_
    refine ft_go mi_k13 4 34 [(7, .int 10), (6, .int 0), (0, .ref 94), (1, .int x1), (2, .int 0), (3, .int 1), (4, .int x4), (5, .int x5)] [.int 24, .int (i 6019)] i a q r (by rfl) ?_
    refine ft_if mi_k13 (decide (24 ≤ (i 6019))) 48 37 [(7, .int 10), (6, .int 0), (0, .ref 94), (1, .int x1), (2, .int 0), (3, .int 1), (4, .int x4), (5, .int x5)] [] (by rfl) (fun c => ?_) (fun c => ?_)
    ·
      have c6 : (24 : Int32).toInt ≤ (i 6019).toInt := kd_le c; clear c
      have s7 : ((i 6019) + 1).toInt = (i 6019).toInt + (1 : Int32).toInt := kd_add (or6 c6 kor24 kor1) (or7 fi_6019.2 kor1)
      have hJ8 := kG_i hG 6019 rfl (v := ((i 6019) + 1)) ⟨(or8 c6 s7 kor24 kor1), (or142 hp3.2 s7 kor1)⟩
      have s9 : (x5 + 1).toInt = x5.toInt + (1 : Int32).toInt := kd_add (or16 hp2.1 kor1) (or143 hp2.2 kor1)
      refine ft_go mi_k13 15 72 [(7, .int 10), (6, .int 0), (0, .ref 94), (1, .int x1), (2, .int 0), (3, .int 1), (4, .int x4), (5, .int x5)] [.int (x5 + 1), .int x4, .int 1, .int x1, .ref 94] (ku i 6019 ((i 6019) + 1)) a q r (by rfl) ?_
      refine ko_callI mi_k13.1 (pc := 72) (ls := [(7, .int 10), (6, .int 0), (0, .ref 94), (1, .int x1), (2, .int 0), (3, .int 1), (4, .int x4), (5, .int x5)]) (st := [.int (x5 + 1), .int x4, .int 1, .int x1, .ref 94]) (h := ks (ku i 6019 ((i 6019) + 1)) a q r) (i := (.invokevirtual 43, 3, 14, 0, 9, 0, 301)) (mi_k13.2 _ _ (by rfl)) (ft_invS mi_pq14 (by rfl)) (cy := mi_c14) mi_pq14 rfl (ke14_94_l11_K3 hJ8.I hJ8.R x1 x4 (x5 + 1) (or25 hp0.1 hp0.2) (or59 hp1) (or145 hp2.1 hp2.2 s9 kor1) (or146 c6 hp3.2 s7 kor24 kor1)) (by decide) ?_
      intro vg10 ig10 ag10 qg10 rg10 kg10 hg10
      have hGg10 := kG_call hJ8 kg10 (by decide +kernel)
      obtain ⟨hg10, og10⟩ := hg10
      have fig10_6019 : ((0 : Int) ≤ (ig10 6019).toInt) ∧ ((ig10 6019).toInt ≤ 1000) := hGg10.I.1 6019
      have z11 : (ig10 6019).toInt = (((i 6019) + 1).toInt + 1) := hg10
      have q12 : vg10 = av0_1_3 x1 x4 := og10.1
      have t13 : trS (a 96) ((i 6019) + 1) (ag10 96) (ig10 6019) [1] := og10.2
      exact ft_ret mi_k13 (by rfl) (hP vg10 _ _ _ _ hGg10 ⟨(or147 s7 z11 kor1), ⟨(show vg10 = av0_1_3 x1 x4 from congrArg (fun z0_ => z0_) q12), (tr_app (es := [10, 1]) (show trS (a 96) (i 6019) (a 96) ((i 6019) + 1) [10] from tr_no (or11 c6 kor24) (or13 c6 kor24) rfl (or12 s7 kor1)) t13 (by rfl))⟩⟩)
    ·
      have c14 : (i 6019).toInt < (24 : Int32).toInt := kd_leF c; clear c
      refine ft_go mi_k13 5 47 [(7, .int 10), (6, .int 0), (0, .ref 94), (1, .int x1), (2, .int 0), (3, .int 1), (4, .int x4), (5, .int x5)] [.int 10, .int (i 6019), .ref 96] i a q r (by rfl) ?_
      refine ko_iast3 mi_k13.1 (n := 24) (c := 24) (ax := (0, 0, 0, 0, 0)) (mi_k13.2 _ _ (by rfl)) (by rfl) (ksG96 _ _ _ _) (ksA96 _ _ _ _) (hG.I.2.1 96) rfl (or14 fi_6019.1) (or15 c14 kor24) ?_
      intro a15 ea15 fa15
      have hJ15 := kG_a3 hG 96 rfl ea15 fa15 (kd_bd _)
      have s16 : ((i 6019) + 1).toInt = (i 6019).toInt + (1 : Int32).toInt := kd_add (or16 fi_6019.1 kor1) (or7 fi_6019.2 kor1)
      have hJ17 := kG_i hJ15 6019 rfl (v := ((i 6019) + 1)) ⟨(or17 fi_6019.1 s16 kor1), (or142 hp3.2 s16 kor1)⟩
      have s18 : (x5 + 1).toInt = x5.toInt + (1 : Int32).toInt := kd_add (or16 hp2.1 kor1) (or143 hp2.2 kor1)
      refine ft_go mi_k13 15 72 [(7, .int 10), (6, .int 0), (0, .ref 94), (1, .int x1), (2, .int 0), (3, .int 1), (4, .int x4), (5, .int x5)] [.int (x5 + 1), .int x4, .int 1, .int x1, .ref 94] (ku i 6019 ((i 6019) + 1)) a15 q r (by rfl) ?_
      have r19 : ((0 : Int) ≤ ((a15 95).getD x1.toNatClampNeg 0).toInt) ∧ (((a15 95).getD x1.toNatClampNeg 0).toInt ≤ 7) := hJ17.I.2.2.1 95 (x1.toNatClampNeg)
      have u20 : ((a15 95).getD x1.toNatClampNeg 0).toInt = ((a 95).getD x1.toNatClampNeg 0).toInt := congrArg (fun z : List Int32 => (z.getD x1.toNatClampNeg 0).toInt) (fa15 95 (by decide))
      refine ko_callI mi_k13.1 (pc := 72) (ls := [(7, .int 10), (6, .int 0), (0, .ref 94), (1, .int x1), (2, .int 0), (3, .int 1), (4, .int x4), (5, .int x5)]) (st := [.int (x5 + 1), .int x4, .int 1, .int x1, .ref 94]) (h := ks (ku i 6019 ((i 6019) + 1)) a15 q r) (i := (.invokevirtual 43, 3, 14, 0, 9, 0, 301)) (mi_k13.2 _ _ (by rfl)) (ft_invS mi_pq14 (by rfl)) (cy := mi_c14) mi_pq14 rfl (ke14_94_l11_K3 hJ17.I hJ17.R x1 x4 (x5 + 1) (or25 hp0.1 hp0.2) (or58 hp1 u20) (or145 hp2.1 hp2.2 s18 kor1) (or148 fi_6019.1 hp3.2 s16 kor1)) (by decide) ?_
      intro vg21 ig21 ag21 qg21 rg21 kg21 hg21
      have hGg21 := kG_call hJ17 kg21 (by decide +kernel)
      obtain ⟨hg21, og21⟩ := hg21
      have fig21_6019 : ((0 : Int) ≤ (ig21 6019).toInt) ∧ ((ig21 6019).toInt ≤ 1000) := hGg21.I.1 6019
      have z22 : (ig21 6019).toInt = (((i 6019) + 1).toInt + 1) := hg21
      have q23 : vg21 = av0_1_3 x1 x4 := og21.1
      have t24 : trS (a15 96) ((i 6019) + 1) (ag21 96) (ig21 6019) [1] := og21.2
      exact ft_ret mi_k13 (by rfl) (hP vg21 _ _ _ _ hGg21 ⟨(or147 s16 z22 kor1), ⟨(show vg21 = av0_1_3 x1 x4 from congrArg (fun z0_ => z0_) q23), (tr_app (es := [10, 1]) (show trS (a 96) (i 6019) (a15 96) ((i 6019) + 1) [10] from tr_st (or18 fi_6019.1) (or15 c14 kor24) (kset_o ea15 rfl) (or12 s16 kor1)) t24 (by rfl))⟩⟩)
  ·
    have c25 : (40 : Int32).toInt ≤ x5.toInt := kd_ltF c; clear c
    exact (or149 c25 hp2.2 kor40).elim
def yw13_94_l12_l21_K3 : kW := ([6019], [96], [], [])
set_option maxRecDepth 100000 in
theorem ke13_94_l12_l21_K3 {i : Nat → Int32} {a : Nat → List Int32} {q : Nat → List Int64} {r : Nat → Nat} (hI : kI i a q) (hr : kr r) (x1 : Int32) (x4 : Int32) (x5 : Int32) (hp0 : ((0 : Int) ≤ x1.toInt) ∧ (x1.toInt ≤ 49)) (hp1 : ((a 95).getD x1.toNatClampNeg 0).toInt = 3) (hp2 : ((0 : Int) ≤ x5.toInt) ∧ ((x5.toInt + 3) ≤ 39)) (hp3 : ((0 : Int) ≤ (i 6019).toInt) ∧ (((i 6019).toInt + 3) ≤ 900)) : km 9 13 [.ref 94, .int x1, .int 2, .int 1, .int x4, .int x5] (ks i a q r) (kVI yw13_94_l12_l21_K3 i a q r (fun v i1 a1 q1 r1 => ((i1 6019).toInt = ((i 6019).toInt + 3)) ∧ (v = av2_1_3 x1 x4 ∧ trS (a 96) (i 6019) (a1 96) (i1 6019) [30, 10, 1]))) := by
  have hG := kG_self yw13_94_l12_l21_K3 hI hr
  refine km_ofI (q := (mi_h13, mi_c13)) rfl (by decide) (Nat.le_of_ble_eq_true rfl) ?_
  intro P hP
  have r1 : ((0 : Int) ≤ ((a 95).getD x1.toNatClampNeg 0).toInt) ∧ (((a 95).getD x1.toNatClampNeg 0).toInt ≤ 7) := hG.I.2.2.1 95 (x1.toNatClampNeg)
  have fi_6019 : ((0 : Int) ≤ (i 6019).toInt) ∧ ((i 6019).toInt ≤ 1000) := hG.I.1 6019
  refine ft_go mi_k13 2 4 [(0, .ref 94), (1, .int x1), (2, .int 2), (3, .int 1), (4, .int x4), (5, .int x5)] [.int 40, .int x5] i a q r (by rfl) ?_
  refine ft_if mi_k13 (decide (x5 < 40)) 9 7 [(0, .ref 94), (1, .int x1), (2, .int 2), (3, .int 1), (4, .int x4), (5, .int x5)] [] (by rfl) (fun c => ?_) (fun c => ?_)
  ·
    have c2 : x5.toInt < (40 : Int32).toInt := kd_lt c; clear c
    refine ft_go mi_k13 2 11 [(0, .ref 94), (1, .int x1), (2, .int 2), (3, .int 1), (4, .int x4), (5, .int x5)] [.int 1, .int 2] i a q r (by rfl) ?_
    refine ko_callPI mi_k13.1 (pc := 11) (ls := [(0, .ref 94), (1, .int x1), (2, .int 2), (3, .int 1), (4, .int x4), (5, .int x5)]) (st := [.int 1, .int 2]) (h := ks i a q r) (i := (.invokestatic 39, 3, 11, 0, 9, 0, 298)) (mi_k13.2 _ _ (by rfl)) (ft_invS mi_pq11 (by rfl)) (cy := mi_c11) mi_pq11 rfl (kc11_l02_l11 hG.I hG.R ) (by decide) ?_
    intro vg3 hg3
    have z4 : vg3.toInt = 2 := hg3
    have evvg3 := kj_eq (or55 z4) (by decide : (2 : Int32).toInt = 2)
    subst evvg3
    refine ft_go mi_k13 5 23 [(6, .int 2), (0, .ref 94), (1, .int x1), (2, .int 2), (3, .int 1), (4, .int x4), (5, .int x5)] [.int (2 * 4), .ref (mi_RO + 3)] i a q r (by rfl) ?_
    refine ko_eq (x1 := (23, [(6, .int 2), (0, .ref 94), (1, .int x1), (2, .int 2), (3, .int 1), (4, .int x4), (5, .int x5)], [.int 8, .ref (mi_RO + 3)], (0, 0), ks i a q r)) (by rw [(by decide : (2 * 4 : Int32) = 8)]) ?_
    refine ft_go mi_k13 2 25 [(6, .int 2), (0, .ref 94), (1, .int x1), (2, .int 2), (3, .int 1), (4, .int x4), (5, .int x5)] [.int (8 + 1), .ref (mi_RO + 3)] i a q r (by rfl) ?_
    refine ko_eq (x1 := (25, [(6, .int 2), (0, .ref 94), (1, .int x1), (2, .int 2), (3, .int 1), (4, .int x4), (5, .int x5)], [.int 9, .ref (mi_RO + 3)], (0, 0), ks i a q r)) (by rw [(by decide : (8 + 1 : Int32) = 9)]) ?_
    refine ko_iaro2 mi_k13.1 (l := [1, 10, 11, 2, 20, 0, 0, 0, 0, 30, 0, 0, 0, 41, 40, 0, 0, 0, 50, 0, 0, 0, 0, 60, 70, 0, 0, 0, 0, 80, 0, 81]) (n := 32) (c := 32) (ax := (0, 0, 0, 0, 0)) (mi_k13.2 _ _ (by rfl)) (by rfl) (by rfl) rfl rfl (or203 kor9) (or204 kor9) ?_
    have r5 : ((0 : Int) ≤ (([1, 10, 11, 2, 20, 0, 0, 0, 0, 30, 0, 0, 0, 41, 40, 0, 0, 0, 50, 0, 0, 0, 0, 60, 70, 0, 0, 0, 0, 80, 0, 81] : List Int32).getD (9 : Int32).toNatClampNeg 0).toInt) ∧ ((([1, 10, 11, 2, 20, 0, 0, 0, 0, 30, 0, 0, 0, 41, 40, 0, 0, 0, 50, 0, 0, 0, 0, 60, 70, 0, 0, 0, 0, 80, 0, 81] : List Int32).getD (9 : Int32).toNatClampNeg 0).toInt ≤ 81) := kro_rng (lo := 0) (hi := 81) (by decide) ((9 : Int32).toNatClampNeg)
    refine ko_eq (x1 := (26, [(6, .int 2), (0, .ref 94), (1, .int x1), (2, .int 2), (3, .int 1), (4, .int x4), (5, .int x5)], [.int 30], (0, 0), ks i a q r)) (by rw [(by decide : (([1, 10, 11, 2, 20, 0, 0, 0, 0, 30, 0, 0, 0, 41, 40, 0, 0, 0, 50, 0, 0, 0, 0, 60, 70, 0, 0, 0, 0, 80, 0, 81] : List Int32).getD (9 : Int32).toNatClampNeg 0) = 30)]) ?_
    refine ft_go mi_k13 4 34 [(7, .int 30), (6, .int 2), (0, .ref 94), (1, .int x1), (2, .int 2), (3, .int 1), (4, .int x4), (5, .int x5)] [.int 24, .int (i 6019)] i a q r (by rfl) ?_
    refine ft_if mi_k13 (decide (24 ≤ (i 6019))) 48 37 [(7, .int 30), (6, .int 2), (0, .ref 94), (1, .int x1), (2, .int 2), (3, .int 1), (4, .int x4), (5, .int x5)] [] (by rfl) (fun c => ?_) (fun c => ?_)
    ·
      have c6 : (24 : Int32).toInt ≤ (i 6019).toInt := kd_le c; clear c
      have s7 : ((i 6019) + 1).toInt = (i 6019).toInt + (1 : Int32).toInt := kd_add (or6 c6 kor24 kor1) (or7 fi_6019.2 kor1)
      have hJ8 := kG_i hG 6019 rfl (v := ((i 6019) + 1)) ⟨(or8 c6 s7 kor24 kor1), (or178 hp3.2 s7 kor1)⟩
      refine ft_go mi_k13 12 83 [(7, .int 30), (6, .int 2), (0, .ref 94), (1, .int x1), (2, .int 2), (3, .int 1), (4, .int x4), (5, .int x5)] [.int 2, .ref (mi_RO + 4), .int x1, .ref 94] (ku i 6019 ((i 6019) + 1)) a q r (by rfl) ?_
      refine ko_iaro2 mi_k13.1 (l := [(-1), 0, 0, 2, 1, 3, 0, 4]) (n := 8) (c := 8) (ax := (0, 0, 0, 0, 0)) (mi_k13.2 _ _ (by rfl)) (by rfl) (by rfl) rfl rfl (or152 kor2) (or202 kor2) ?_
      have r9 : ((-1 : Int) ≤ (([(-1), 0, 0, 2, 1, 3, 0, 4] : List Int32).getD (2 : Int32).toNatClampNeg 0).toInt) ∧ ((([(-1), 0, 0, 2, 1, 3, 0, 4] : List Int32).getD (2 : Int32).toNatClampNeg 0).toInt ≤ 4) := kro_rng (lo := -1) (hi := 4) (by decide) ((2 : Int32).toNatClampNeg)
      refine ko_eq (x1 := (84, [(7, .int 30), (6, .int 2), (0, .ref 94), (1, .int x1), (2, .int 2), (3, .int 1), (4, .int x4), (5, .int x5)], [.int 0, .int x1, .ref 94], (0, 0), ks (ku i 6019 ((i 6019) + 1)) a q r)) (by rw [(by decide : (([(-1), 0, 0, 2, 1, 3, 0, 4] : List Int32).getD (2 : Int32).toNatClampNeg 0) = 0)]) ?_
      have s10 : (x5 + 1).toInt = x5.toInt + (1 : Int32).toInt := kd_add (or16 hp2.1 kor1) (or158 hp2.2 kor1)
      refine ft_go mi_k13 8 105 [(7, .int 30), (6, .int 2), (0, .ref 94), (1, .int x1), (2, .int 2), (3, .int 1), (4, .int x4), (5, .int x5)] [.int (x5 + 1), .int x4, .int 1, .int 0, .int x1, .ref 94] (ku i 6019 ((i 6019) + 1)) a q r (by rfl) ?_
      refine ko_callI mi_k13.1 (pc := 105) (ls := [(7, .int 30), (6, .int 2), (0, .ref 94), (1, .int x1), (2, .int 2), (3, .int 1), (4, .int x4), (5, .int x5)]) (st := [.int (x5 + 1), .int x4, .int 1, .int 0, .int x1, .ref 94]) (h := ks (ku i 6019 ((i 6019) + 1)) a q r) (i := (.invokevirtual 35, 3, 13, 0, 9, 0, 297)) (mi_k13.2 _ _ (by rfl)) (ft_invS mi_pq13 (by rfl)) (cy := mi_c13) mi_pq13 rfl (ke13_94_l10_l21_K3 hJ8.I hJ8.R x1 x4 (x5 + 1) (or25 hp0.1 hp0.2) (or59 hp1) (or164 hp2.1 hp2.2 s10 kor1) (or179 c6 hp3.2 s7 kor24 kor1)) (by decide) ?_
      intro vg11 ig11 ag11 qg11 rg11 kg11 hg11
      have hGg11 := kG_call hJ8 kg11 (by decide +kernel)
      obtain ⟨hg11, og11⟩ := hg11
      have fig11_6019 : ((0 : Int) ≤ (ig11 6019).toInt) ∧ ((ig11 6019).toInt ≤ 1000) := hGg11.I.1 6019
      have z12 : (ig11 6019).toInt = (((i 6019) + 1).toInt + 2) := hg11
      have q13 : vg11 = av0_1_3 x1 x4 := og11.1
      have t14 : trS (a 96) ((i 6019) + 1) (ag11 96) (ig11 6019) [10, 1] := og11.2
      refine ft_go mi_k13 5 196 [(8, .int vg11), (7, .int 30), (6, .int 2), (0, .ref 94), (1, .int x1), (2, .int 2), (3, .int 1), (4, .int x4), (5, .int x5)] [.int (-vg11)] ig11 ag11 qg11 rg11 (by rfl) ?_
      exact ft_ret mi_k13 (by rfl) (hP (-vg11) _ _ _ _ hGg11 ⟨(or180 s7 z12 kor1), ⟨(show (-vg11) = av2_1_3 x1 x4 from congrArg (fun z0_ => (-z0_)) q13), (tr_app (es := [30, 10, 1]) (show trS (a 96) (i 6019) (a 96) ((i 6019) + 1) [30] from tr_no (or11 c6 kor24) (or13 c6 kor24) rfl (or12 s7 kor1)) t14 (by rfl))⟩⟩)
    ·
      have c15 : (i 6019).toInt < (24 : Int32).toInt := kd_leF c; clear c
      refine ft_go mi_k13 5 47 [(7, .int 30), (6, .int 2), (0, .ref 94), (1, .int x1), (2, .int 2), (3, .int 1), (4, .int x4), (5, .int x5)] [.int 30, .int (i 6019), .ref 96] i a q r (by rfl) ?_
      refine ko_iast3 mi_k13.1 (n := 24) (c := 24) (ax := (0, 0, 0, 0, 0)) (mi_k13.2 _ _ (by rfl)) (by rfl) (ksG96 _ _ _ _) (ksA96 _ _ _ _) (hG.I.2.1 96) rfl (or14 fi_6019.1) (or15 c15 kor24) ?_
      intro a16 ea16 fa16
      have hJ16 := kG_a3 hG 96 rfl ea16 fa16 (kd_bd _)
      have s17 : ((i 6019) + 1).toInt = (i 6019).toInt + (1 : Int32).toInt := kd_add (or16 fi_6019.1 kor1) (or7 fi_6019.2 kor1)
      have hJ18 := kG_i hJ16 6019 rfl (v := ((i 6019) + 1)) ⟨(or17 fi_6019.1 s17 kor1), (or178 hp3.2 s17 kor1)⟩
      refine ft_go mi_k13 12 83 [(7, .int 30), (6, .int 2), (0, .ref 94), (1, .int x1), (2, .int 2), (3, .int 1), (4, .int x4), (5, .int x5)] [.int 2, .ref (mi_RO + 4), .int x1, .ref 94] (ku i 6019 ((i 6019) + 1)) a16 q r (by rfl) ?_
      refine ko_iaro2 mi_k13.1 (l := [(-1), 0, 0, 2, 1, 3, 0, 4]) (n := 8) (c := 8) (ax := (0, 0, 0, 0, 0)) (mi_k13.2 _ _ (by rfl)) (by rfl) (by rfl) rfl rfl (or152 kor2) (or202 kor2) ?_
      have r19 : ((-1 : Int) ≤ (([(-1), 0, 0, 2, 1, 3, 0, 4] : List Int32).getD (2 : Int32).toNatClampNeg 0).toInt) ∧ ((([(-1), 0, 0, 2, 1, 3, 0, 4] : List Int32).getD (2 : Int32).toNatClampNeg 0).toInt ≤ 4) := kro_rng (lo := -1) (hi := 4) (by decide) ((2 : Int32).toNatClampNeg)
      refine ko_eq (x1 := (84, [(7, .int 30), (6, .int 2), (0, .ref 94), (1, .int x1), (2, .int 2), (3, .int 1), (4, .int x4), (5, .int x5)], [.int 0, .int x1, .ref 94], (0, 0), ks (ku i 6019 ((i 6019) + 1)) a16 q r)) (by rw [(by decide : (([(-1), 0, 0, 2, 1, 3, 0, 4] : List Int32).getD (2 : Int32).toNatClampNeg 0) = 0)]) ?_
      have s20 : (x5 + 1).toInt = x5.toInt + (1 : Int32).toInt := kd_add (or16 hp2.1 kor1) (or158 hp2.2 kor1)
      refine ft_go mi_k13 8 105 [(7, .int 30), (6, .int 2), (0, .ref 94), (1, .int x1), (2, .int 2), (3, .int 1), (4, .int x4), (5, .int x5)] [.int (x5 + 1), .int x4, .int 1, .int 0, .int x1, .ref 94] (ku i 6019 ((i 6019) + 1)) a16 q r (by rfl) ?_
      have r21 : ((0 : Int) ≤ ((a16 95).getD x1.toNatClampNeg 0).toInt) ∧ (((a16 95).getD x1.toNatClampNeg 0).toInt ≤ 7) := hJ18.I.2.2.1 95 (x1.toNatClampNeg)
      have u22 : ((a16 95).getD x1.toNatClampNeg 0).toInt = ((a 95).getD x1.toNatClampNeg 0).toInt := congrArg (fun z : List Int32 => (z.getD x1.toNatClampNeg 0).toInt) (fa16 95 (by decide))
      refine ko_callI mi_k13.1 (pc := 105) (ls := [(7, .int 30), (6, .int 2), (0, .ref 94), (1, .int x1), (2, .int 2), (3, .int 1), (4, .int x4), (5, .int x5)]) (st := [.int (x5 + 1), .int x4, .int 1, .int 0, .int x1, .ref 94]) (h := ks (ku i 6019 ((i 6019) + 1)) a16 q r) (i := (.invokevirtual 35, 3, 13, 0, 9, 0, 297)) (mi_k13.2 _ _ (by rfl)) (ft_invS mi_pq13 (by rfl)) (cy := mi_c13) mi_pq13 rfl (ke13_94_l10_l21_K3 hJ18.I hJ18.R x1 x4 (x5 + 1) (or25 hp0.1 hp0.2) (or58 hp1 u22) (or164 hp2.1 hp2.2 s20 kor1) (or181 fi_6019.1 hp3.2 s17 kor1)) (by decide) ?_
      intro vg23 ig23 ag23 qg23 rg23 kg23 hg23
      have hGg23 := kG_call hJ18 kg23 (by decide +kernel)
      obtain ⟨hg23, og23⟩ := hg23
      have fig23_6019 : ((0 : Int) ≤ (ig23 6019).toInt) ∧ ((ig23 6019).toInt ≤ 1000) := hGg23.I.1 6019
      have z24 : (ig23 6019).toInt = (((i 6019) + 1).toInt + 2) := hg23
      have q25 : vg23 = av0_1_3 x1 x4 := og23.1
      have t26 : trS (a16 96) ((i 6019) + 1) (ag23 96) (ig23 6019) [10, 1] := og23.2
      refine ft_go mi_k13 5 196 [(8, .int vg23), (7, .int 30), (6, .int 2), (0, .ref 94), (1, .int x1), (2, .int 2), (3, .int 1), (4, .int x4), (5, .int x5)] [.int (-vg23)] ig23 ag23 qg23 rg23 (by rfl) ?_
      exact ft_ret mi_k13 (by rfl) (hP (-vg23) _ _ _ _ hGg23 ⟨(or180 s17 z24 kor1), ⟨(show (-vg23) = av2_1_3 x1 x4 from congrArg (fun z0_ => (-z0_)) q25), (tr_app (es := [30, 10, 1]) (show trS (a 96) (i 6019) (a16 96) ((i 6019) + 1) [30] from tr_st (or18 fi_6019.1) (or15 c15 kor24) (kset_o ea16 rfl) (or12 s17 kor1)) t26 (by rfl))⟩⟩)
  ·
    have c27 : (40 : Int32).toInt ≤ x5.toInt := kd_ltF c; clear c
    exact (or168 c27 hp2.2 kor40).elim
def yw13_94_l13_l21_K3 : kW := ([6019], [96], [], [])
set_option maxRecDepth 100000 in
theorem ke13_94_l13_l21_K3 {i : Nat → Int32} {a : Nat → List Int32} {q : Nat → List Int64} {r : Nat → Nat} (hI : kI i a q) (hr : kr r) (x1 : Int32) (x4 : Int32) (x5 : Int32) (hp0 : ((0 : Int) ≤ x1.toInt) ∧ (x1.toInt ≤ 49)) (hp1 : ((a 95).getD x1.toNatClampNeg 0).toInt = 3) (hp2 : ((0 : Int) ≤ x5.toInt) ∧ ((x5.toInt + 4) ≤ 39)) (hp3 : ((0 : Int) ≤ (i 6019).toInt) ∧ (((i 6019).toInt + 4) ≤ 900)) : km 11 13 [.ref 94, .int x1, .int 3, .int 1, .int x4, .int x5] (ks i a q r) (kVI yw13_94_l13_l21_K3 i a q r (fun v i1 a1 q1 r1 => ((i1 6019).toInt = ((i 6019).toInt + 4)) ∧ (v = av3_1_3 x1 x4 ∧ trS (a 96) (i 6019) (a1 96) (i1 6019) [41, 30, 10, 1]))) := by
  have hG := kG_self yw13_94_l13_l21_K3 hI hr
  refine km_ofI (q := (mi_h13, mi_c13)) rfl (by decide) (Nat.le_of_ble_eq_true rfl) ?_
  intro P hP
  have r1 : ((0 : Int) ≤ ((a 95).getD x1.toNatClampNeg 0).toInt) ∧ (((a 95).getD x1.toNatClampNeg 0).toInt ≤ 7) := hG.I.2.2.1 95 (x1.toNatClampNeg)
  have fi_6019 : ((0 : Int) ≤ (i 6019).toInt) ∧ ((i 6019).toInt ≤ 1000) := hG.I.1 6019
  refine ft_go mi_k13 2 4 [(0, .ref 94), (1, .int x1), (2, .int 3), (3, .int 1), (4, .int x4), (5, .int x5)] [.int 40, .int x5] i a q r (by rfl) ?_
  refine ft_if mi_k13 (decide (x5 < 40)) 9 7 [(0, .ref 94), (1, .int x1), (2, .int 3), (3, .int 1), (4, .int x4), (5, .int x5)] [] (by rfl) (fun c => ?_) (fun c => ?_)
  ·
    have c2 : x5.toInt < (40 : Int32).toInt := kd_lt c; clear c
    refine ft_go mi_k13 2 11 [(0, .ref 94), (1, .int x1), (2, .int 3), (3, .int 1), (4, .int x4), (5, .int x5)] [.int 1, .int 3] i a q r (by rfl) ?_
    refine ko_callPI mi_k13.1 (pc := 11) (ls := [(0, .ref 94), (1, .int x1), (2, .int 3), (3, .int 1), (4, .int x4), (5, .int x5)]) (st := [.int 1, .int 3]) (h := ks i a q r) (i := (.invokestatic 39, 3, 11, 0, 9, 0, 298)) (mi_k13.2 _ _ (by rfl)) (ft_invS mi_pq11 (by rfl)) (cy := mi_c11) mi_pq11 rfl (kc11_l03_l11 hG.I hG.R ) (by decide) ?_
    intro vg3 hg3
    have z4 : vg3.toInt = 3 := hg3
    have evvg3 := kj_eq (or59 z4) (by decide : (3 : Int32).toInt = 3)
    subst evvg3
    refine ft_go mi_k13 5 23 [(6, .int 3), (0, .ref 94), (1, .int x1), (2, .int 3), (3, .int 1), (4, .int x4), (5, .int x5)] [.int (3 * 4), .ref (mi_RO + 3)] i a q r (by rfl) ?_
    refine ko_eq (x1 := (23, [(6, .int 3), (0, .ref 94), (1, .int x1), (2, .int 3), (3, .int 1), (4, .int x4), (5, .int x5)], [.int 12, .ref (mi_RO + 3)], (0, 0), ks i a q r)) (by rw [(by decide : (3 * 4 : Int32) = 12)]) ?_
    refine ft_go mi_k13 2 25 [(6, .int 3), (0, .ref 94), (1, .int x1), (2, .int 3), (3, .int 1), (4, .int x4), (5, .int x5)] [.int (12 + 1), .ref (mi_RO + 3)] i a q r (by rfl) ?_
    refine ko_eq (x1 := (25, [(6, .int 3), (0, .ref 94), (1, .int x1), (2, .int 3), (3, .int 1), (4, .int x4), (5, .int x5)], [.int 13, .ref (mi_RO + 3)], (0, 0), ks i a q r)) (by rw [(by decide : (12 + 1 : Int32) = 13)]) ?_
    refine ko_iaro2 mi_k13.1 (l := [1, 10, 11, 2, 20, 0, 0, 0, 0, 30, 0, 0, 0, 41, 40, 0, 0, 0, 50, 0, 0, 0, 0, 60, 70, 0, 0, 0, 0, 80, 0, 81]) (n := 32) (c := 32) (ax := (0, 0, 0, 0, 0)) (mi_k13.2 _ _ (by rfl)) (by rfl) (by rfl) rfl rfl (or212 kor13) (or213 kor13) ?_
    have r5 : ((0 : Int) ≤ (([1, 10, 11, 2, 20, 0, 0, 0, 0, 30, 0, 0, 0, 41, 40, 0, 0, 0, 50, 0, 0, 0, 0, 60, 70, 0, 0, 0, 0, 80, 0, 81] : List Int32).getD (13 : Int32).toNatClampNeg 0).toInt) ∧ ((([1, 10, 11, 2, 20, 0, 0, 0, 0, 30, 0, 0, 0, 41, 40, 0, 0, 0, 50, 0, 0, 0, 0, 60, 70, 0, 0, 0, 0, 80, 0, 81] : List Int32).getD (13 : Int32).toNatClampNeg 0).toInt ≤ 81) := kro_rng (lo := 0) (hi := 81) (by decide) ((13 : Int32).toNatClampNeg)
    refine ko_eq (x1 := (26, [(6, .int 3), (0, .ref 94), (1, .int x1), (2, .int 3), (3, .int 1), (4, .int x4), (5, .int x5)], [.int 41], (0, 0), ks i a q r)) (by rw [(by decide : (([1, 10, 11, 2, 20, 0, 0, 0, 0, 30, 0, 0, 0, 41, 40, 0, 0, 0, 50, 0, 0, 0, 0, 60, 70, 0, 0, 0, 0, 80, 0, 81] : List Int32).getD (13 : Int32).toNatClampNeg 0) = 41)]) ?_
    refine ft_go mi_k13 4 34 [(7, .int 41), (6, .int 3), (0, .ref 94), (1, .int x1), (2, .int 3), (3, .int 1), (4, .int x4), (5, .int x5)] [.int 24, .int (i 6019)] i a q r (by rfl) ?_
    refine ft_if mi_k13 (decide (24 ≤ (i 6019))) 48 37 [(7, .int 41), (6, .int 3), (0, .ref 94), (1, .int x1), (2, .int 3), (3, .int 1), (4, .int x4), (5, .int x5)] [] (by rfl) (fun c => ?_) (fun c => ?_)
    ·
      have c6 : (24 : Int32).toInt ≤ (i 6019).toInt := kd_le c; clear c
      have s7 : ((i 6019) + 1).toInt = (i 6019).toInt + (1 : Int32).toInt := kd_add (or6 c6 kor24 kor1) (or7 fi_6019.2 kor1)
      have hJ8 := kG_i hG 6019 rfl (v := ((i 6019) + 1)) ⟨(or8 c6 s7 kor24 kor1), (or157 hp3.2 s7 kor1)⟩
      refine ft_go mi_k13 12 83 [(7, .int 41), (6, .int 3), (0, .ref 94), (1, .int x1), (2, .int 3), (3, .int 1), (4, .int x4), (5, .int x5)] [.int 3, .ref (mi_RO + 4), .int x1, .ref 94] (ku i 6019 ((i 6019) + 1)) a q r (by rfl) ?_
      refine ko_iaro2 mi_k13.1 (l := [(-1), 0, 0, 2, 1, 3, 0, 4]) (n := 8) (c := 8) (ax := (0, 0, 0, 0, 0)) (mi_k13.2 _ _ (by rfl)) (by rfl) (by rfl) rfl rfl (or155 kor3) (or211 kor3) ?_
      have r9 : ((-1 : Int) ≤ (([(-1), 0, 0, 2, 1, 3, 0, 4] : List Int32).getD (3 : Int32).toNatClampNeg 0).toInt) ∧ ((([(-1), 0, 0, 2, 1, 3, 0, 4] : List Int32).getD (3 : Int32).toNatClampNeg 0).toInt ≤ 4) := kro_rng (lo := -1) (hi := 4) (by decide) ((3 : Int32).toNatClampNeg)
      refine ko_eq (x1 := (84, [(7, .int 41), (6, .int 3), (0, .ref 94), (1, .int x1), (2, .int 3), (3, .int 1), (4, .int x4), (5, .int x5)], [.int 2, .int x1, .ref 94], (0, 0), ks (ku i 6019 ((i 6019) + 1)) a q r)) (by rw [(by decide : (([(-1), 0, 0, 2, 1, 3, 0, 4] : List Int32).getD (3 : Int32).toNatClampNeg 0) = 2)]) ?_
      have b10 : ((-2147483648 : Int) ≤ x4.toInt) ∧ (x4.toInt ≤ 2147483647) := kd_bd x4
      have s11 : (x5 + 1).toInt = x5.toInt + (1 : Int32).toInt := kd_add (or16 hp2.1 kor1) (or187 hp2.2 kor1)
      refine ft_go mi_k13 11 105 [(7, .int 41), (6, .int 3), (0, .ref 94), (1, .int x1), (2, .int 3), (3, .int 1), (4, .int x4), (5, .int x5)] [.int (x5 + 1), .int (x4 + 1), .int 1, .int 2, .int x1, .ref 94] (ku i 6019 ((i 6019) + 1)) a q r (by rfl) ?_
      refine ko_callI mi_k13.1 (pc := 105) (ls := [(7, .int 41), (6, .int 3), (0, .ref 94), (1, .int x1), (2, .int 3), (3, .int 1), (4, .int x4), (5, .int x5)]) (st := [.int (x5 + 1), .int (x4 + 1), .int 1, .int 2, .int x1, .ref 94]) (h := ks (ku i 6019 ((i 6019) + 1)) a q r) (i := (.invokevirtual 35, 3, 13, 0, 9, 0, 297)) (mi_k13.2 _ _ (by rfl)) (ft_invS mi_pq13 (by rfl)) (cy := mi_c13) mi_pq13 rfl (ke13_94_l12_l21_K3 hJ8.I hJ8.R x1 (x4 + 1) (x5 + 1) (or25 hp0.1 hp0.2) (or59 hp1) (or193 hp2.1 hp2.2 s11 kor1) (or165 c6 hp3.2 s7 kor24 kor1)) (by decide) ?_
      intro vg12 ig12 ag12 qg12 rg12 kg12 hg12
      have hGg12 := kG_call hJ8 kg12 (by decide +kernel)
      obtain ⟨hg12, og12⟩ := hg12
      have fig12_6019 : ((0 : Int) ≤ (ig12 6019).toInt) ∧ ((ig12 6019).toInt ≤ 1000) := hGg12.I.1 6019
      have z13 : (ig12 6019).toInt = (((i 6019) + 1).toInt + 3) := hg12
      have q14 : vg12 = av2_1_3 x1 (x4 + 1) := og12.1
      have t15 : trS (a 96) ((i 6019) + 1) (ag12 96) (ig12 6019) [30, 10, 1] := og12.2
      refine ft_go mi_k13 4 261 [(8, .int vg12), (7, .int 41), (6, .int 3), (0, .ref 94), (1, .int x1), (2, .int 3), (3, .int 1), (4, .int x4), (5, .int x5)] [.int vg12] ig12 ag12 qg12 rg12 (by rfl) ?_
      exact ft_ret mi_k13 (by rfl) (hP vg12 _ _ _ _ hGg12 ⟨(or166 s7 z13 kor1), ⟨(show vg12 = av3_1_3 x1 x4 from congrArg (fun z0_ => z0_) q14), (tr_app (es := [41, 30, 10, 1]) (show trS (a 96) (i 6019) (a 96) ((i 6019) + 1) [41] from tr_no (or11 c6 kor24) (or13 c6 kor24) rfl (or12 s7 kor1)) t15 (by rfl))⟩⟩)
    ·
      have c16 : (i 6019).toInt < (24 : Int32).toInt := kd_leF c; clear c
      refine ft_go mi_k13 5 47 [(7, .int 41), (6, .int 3), (0, .ref 94), (1, .int x1), (2, .int 3), (3, .int 1), (4, .int x4), (5, .int x5)] [.int 41, .int (i 6019), .ref 96] i a q r (by rfl) ?_
      refine ko_iast3 mi_k13.1 (n := 24) (c := 24) (ax := (0, 0, 0, 0, 0)) (mi_k13.2 _ _ (by rfl)) (by rfl) (ksG96 _ _ _ _) (ksA96 _ _ _ _) (hG.I.2.1 96) rfl (or14 fi_6019.1) (or15 c16 kor24) ?_
      intro a17 ea17 fa17
      have hJ17 := kG_a3 hG 96 rfl ea17 fa17 (kd_bd _)
      have s18 : ((i 6019) + 1).toInt = (i 6019).toInt + (1 : Int32).toInt := kd_add (or16 fi_6019.1 kor1) (or7 fi_6019.2 kor1)
      have hJ19 := kG_i hJ17 6019 rfl (v := ((i 6019) + 1)) ⟨(or17 fi_6019.1 s18 kor1), (or157 hp3.2 s18 kor1)⟩
      refine ft_go mi_k13 12 83 [(7, .int 41), (6, .int 3), (0, .ref 94), (1, .int x1), (2, .int 3), (3, .int 1), (4, .int x4), (5, .int x5)] [.int 3, .ref (mi_RO + 4), .int x1, .ref 94] (ku i 6019 ((i 6019) + 1)) a17 q r (by rfl) ?_
      refine ko_iaro2 mi_k13.1 (l := [(-1), 0, 0, 2, 1, 3, 0, 4]) (n := 8) (c := 8) (ax := (0, 0, 0, 0, 0)) (mi_k13.2 _ _ (by rfl)) (by rfl) (by rfl) rfl rfl (or155 kor3) (or211 kor3) ?_
      have r20 : ((-1 : Int) ≤ (([(-1), 0, 0, 2, 1, 3, 0, 4] : List Int32).getD (3 : Int32).toNatClampNeg 0).toInt) ∧ ((([(-1), 0, 0, 2, 1, 3, 0, 4] : List Int32).getD (3 : Int32).toNatClampNeg 0).toInt ≤ 4) := kro_rng (lo := -1) (hi := 4) (by decide) ((3 : Int32).toNatClampNeg)
      refine ko_eq (x1 := (84, [(7, .int 41), (6, .int 3), (0, .ref 94), (1, .int x1), (2, .int 3), (3, .int 1), (4, .int x4), (5, .int x5)], [.int 2, .int x1, .ref 94], (0, 0), ks (ku i 6019 ((i 6019) + 1)) a17 q r)) (by rw [(by decide : (([(-1), 0, 0, 2, 1, 3, 0, 4] : List Int32).getD (3 : Int32).toNatClampNeg 0) = 2)]) ?_
      have b21 : ((-2147483648 : Int) ≤ x4.toInt) ∧ (x4.toInt ≤ 2147483647) := kd_bd x4
      have s22 : (x5 + 1).toInt = x5.toInt + (1 : Int32).toInt := kd_add (or16 hp2.1 kor1) (or187 hp2.2 kor1)
      refine ft_go mi_k13 11 105 [(7, .int 41), (6, .int 3), (0, .ref 94), (1, .int x1), (2, .int 3), (3, .int 1), (4, .int x4), (5, .int x5)] [.int (x5 + 1), .int (x4 + 1), .int 1, .int 2, .int x1, .ref 94] (ku i 6019 ((i 6019) + 1)) a17 q r (by rfl) ?_
      have r23 : ((0 : Int) ≤ ((a17 95).getD x1.toNatClampNeg 0).toInt) ∧ (((a17 95).getD x1.toNatClampNeg 0).toInt ≤ 7) := hJ19.I.2.2.1 95 (x1.toNatClampNeg)
      have u24 : ((a17 95).getD x1.toNatClampNeg 0).toInt = ((a 95).getD x1.toNatClampNeg 0).toInt := congrArg (fun z : List Int32 => (z.getD x1.toNatClampNeg 0).toInt) (fa17 95 (by decide))
      refine ko_callI mi_k13.1 (pc := 105) (ls := [(7, .int 41), (6, .int 3), (0, .ref 94), (1, .int x1), (2, .int 3), (3, .int 1), (4, .int x4), (5, .int x5)]) (st := [.int (x5 + 1), .int (x4 + 1), .int 1, .int 2, .int x1, .ref 94]) (h := ks (ku i 6019 ((i 6019) + 1)) a17 q r) (i := (.invokevirtual 35, 3, 13, 0, 9, 0, 297)) (mi_k13.2 _ _ (by rfl)) (ft_invS mi_pq13 (by rfl)) (cy := mi_c13) mi_pq13 rfl (ke13_94_l12_l21_K3 hJ19.I hJ19.R x1 (x4 + 1) (x5 + 1) (or25 hp0.1 hp0.2) (or58 hp1 u24) (or193 hp2.1 hp2.2 s22 kor1) (or167 fi_6019.1 hp3.2 s18 kor1)) (by decide) ?_
      intro vg25 ig25 ag25 qg25 rg25 kg25 hg25
      have hGg25 := kG_call hJ19 kg25 (by decide +kernel)
      obtain ⟨hg25, og25⟩ := hg25
      have fig25_6019 : ((0 : Int) ≤ (ig25 6019).toInt) ∧ ((ig25 6019).toInt ≤ 1000) := hGg25.I.1 6019
      have z26 : (ig25 6019).toInt = (((i 6019) + 1).toInt + 3) := hg25
      have q27 : vg25 = av2_1_3 x1 (x4 + 1) := og25.1
      have t28 : trS (a17 96) ((i 6019) + 1) (ag25 96) (ig25 6019) [30, 10, 1] := og25.2
      refine ft_go mi_k13 4 261 [(8, .int vg25), (7, .int 41), (6, .int 3), (0, .ref 94), (1, .int x1), (2, .int 3), (3, .int 1), (4, .int x4), (5, .int x5)] [.int vg25] ig25 ag25 qg25 rg25 (by rfl) ?_
      exact ft_ret mi_k13 (by rfl) (hP vg25 _ _ _ _ hGg25 ⟨(or166 s18 z26 kor1), ⟨(show vg25 = av3_1_3 x1 x4 from congrArg (fun z0_ => z0_) q27), (tr_app (es := [41, 30, 10, 1]) (show trS (a 96) (i 6019) (a17 96) ((i 6019) + 1) [41] from tr_st (or18 fi_6019.1) (or15 c16 kor24) (kset_o ea17 rfl) (or12 s18 kor1)) t28 (by rfl))⟩⟩)
  ·
    have c29 : (40 : Int32).toInt ≤ x5.toInt := kd_ltF c; clear c
    exact (or197 c29 hp2.2 kor40).elim
def yw14_94_l12_K3 : kW := ([], [], [], [])
set_option maxRecDepth 100000 in
theorem ke14_94_l12_K3 {i : Nat → Int32} {a : Nat → List Int32} {q : Nat → List Int64} {r : Nat → Nat} (hI : kI i a q) (hr : kr r) (x1 : Int32) (x3 : Int32) (x4 : Int32) (hp0 : ((0 : Int) ≤ x1.toInt) ∧ (x1.toInt ≤ 49)) (hp1 : ((a 95).getD x1.toNatClampNeg 0).toInt = 3) (hp2 : ((0 : Int) ≤ x4.toInt) ∧ ((x4.toInt + 0) ≤ 39)) (hp3 : ((0 : Int) ≤ (i 6019).toInt) ∧ (((i 6019).toInt + 0) ≤ 900)) : km 1 14 [.ref 94, .int x1, .int 2, .int x3, .int x4] (ks i a q r) (kVI yw14_94_l12_K3 i a q r (fun v i1 a1 q1 r1 => ((i1 6019).toInt = ((i 6019).toInt + 0)) ∧ (v = av0_2_3 x1 x3 ∧ trS (a 96) (i 6019) (a1 96) (i1 6019) []))) := by
  have hG := kG_self yw14_94_l12_K3 hI hr
  refine km_ofI (q := (mi_h14, mi_c14)) rfl (by decide) (Nat.le_of_ble_eq_true rfl) ?_
  intro P hP
  have r1 : ((0 : Int) ≤ ((a 95).getD x1.toNatClampNeg 0).toInt) ∧ (((a 95).getD x1.toNatClampNeg 0).toInt ≤ 7) := hG.I.2.2.1 95 (x1.toNatClampNeg)
  have fi_6019 : ((0 : Int) ≤ (i 6019).toInt) ∧ ((i 6019).toInt ≤ 1000) := hG.I.1 6019
  refine ft_go mi_k14 3 5 [(0, .ref 94), (1, .int x1), (2, .int 2), (3, .int x3), (4, .int x4)] [.int x1, .ref 95] i a q r (by rfl) ?_
  refine ko_iald3 mi_k14.1 (n := 50) (c := 50) (ax := (0, 0, 0, 0, 0)) (mi_k14.2 _ _ (by rfl)) (by rfl) (ksG95 _ _ _ _) (hG.I.2.1 95) rfl (or14 hp0.1) (or20 hp0.2) ?_
  refine ko_eq (x1 := (6, [(0, .ref 94), (1, .int x1), (2, .int 2), (3, .int x3), (4, .int x4)], [.int 3], (0, 0), ks i a q r)) (by rw [(kj_eq (or59 hp1) (by decide) : ((a 95).getD x1.toNatClampNeg 0) = 3)]) ?_
  refine ft_go mi_k14 6 57 [(5, .int 3), (0, .ref 94), (1, .int x1), (2, .int 2), (3, .int x3), (4, .int x4)] [.int (x3 ^^^ x1)] i a q r (by rfl) ?_
  exact ft_ret mi_k14 (by rfl) (hP (x3 ^^^ x1) _ _ _ _ hG ⟨or130, ⟨(show (x3 ^^^ x1) = av0_2_3 x1 x3 from rfl), tr_nil (or18 fi_6019.1)⟩⟩)
def yw13_94_l12_l22_K3 : kW := ([6019], [96], [], [])
set_option maxRecDepth 100000 in
theorem ke13_94_l12_l22_K3 {i : Nat → Int32} {a : Nat → List Int32} {q : Nat → List Int64} {r : Nat → Nat} (hI : kI i a q) (hr : kr r) (x1 : Int32) (x4 : Int32) (x5 : Int32) (hp0 : ((0 : Int) ≤ x1.toInt) ∧ (x1.toInt ≤ 49)) (hp1 : ((a 95).getD x1.toNatClampNeg 0).toInt = 3) (hp2 : ((0 : Int) ≤ x5.toInt) ∧ ((x5.toInt + 1) ≤ 39)) (hp3 : ((0 : Int) ≤ (i 6019).toInt) ∧ (((i 6019).toInt + 1) ≤ 900)) : km 3 13 [.ref 94, .int x1, .int 2, .int 2, .int x4, .int x5] (ks i a q r) (kVI yw13_94_l12_l22_K3 i a q r (fun v i1 a1 q1 r1 => ((i1 6019).toInt = ((i 6019).toInt + 1)) ∧ (v = av0_2_3 x1 x4 ∧ trS (a 96) (i 6019) (a1 96) (i1 6019) [11]))) := by
  have hG := kG_self yw13_94_l12_l22_K3 hI hr
  refine km_ofI (q := (mi_h13, mi_c13)) rfl (by decide) (Nat.le_of_ble_eq_true rfl) ?_
  intro P hP
  have r1 : ((0 : Int) ≤ ((a 95).getD x1.toNatClampNeg 0).toInt) ∧ (((a 95).getD x1.toNatClampNeg 0).toInt ≤ 7) := hG.I.2.2.1 95 (x1.toNatClampNeg)
  have fi_6019 : ((0 : Int) ≤ (i 6019).toInt) ∧ ((i 6019).toInt ≤ 1000) := hG.I.1 6019
  refine ft_go mi_k13 2 4 [(0, .ref 94), (1, .int x1), (2, .int 2), (3, .int 2), (4, .int x4), (5, .int x5)] [.int 40, .int x5] i a q r (by rfl) ?_
  refine ft_if mi_k13 (decide (x5 < 40)) 9 7 [(0, .ref 94), (1, .int x1), (2, .int 2), (3, .int 2), (4, .int x4), (5, .int x5)] [] (by rfl) (fun c => ?_) (fun c => ?_)
  ·
    have c2 : x5.toInt < (40 : Int32).toInt := kd_lt c; clear c
    refine ft_go mi_k13 2 11 [(0, .ref 94), (1, .int x1), (2, .int 2), (3, .int 2), (4, .int x4), (5, .int x5)] [.int 2, .int 2] i a q r (by rfl) ?_
    refine ko_callPI mi_k13.1 (pc := 11) (ls := [(0, .ref 94), (1, .int x1), (2, .int 2), (3, .int 2), (4, .int x4), (5, .int x5)]) (st := [.int 2, .int 2]) (h := ks i a q r) (i := (.invokestatic 39, 3, 11, 0, 9, 0, 298)) (mi_k13.2 _ _ (by rfl)) (ft_invS mi_pq11 (by rfl)) (cy := mi_c11) mi_pq11 rfl (kc11_l02_l12 hG.I hG.R ) (by decide) ?_
    intro vg3 hg3
    have z4 : vg3.toInt = 0 := hg3
    have evvg3 := kj_eq (or37 z4) (by decide : (0 : Int32).toInt = 0)
    subst evvg3
    refine ft_go mi_k13 5 23 [(6, .int 0), (0, .ref 94), (1, .int x1), (2, .int 2), (3, .int 2), (4, .int x4), (5, .int x5)] [.int (0 * 4), .ref (mi_RO + 3)] i a q r (by rfl) ?_
    refine ko_eq (x1 := (23, [(6, .int 0), (0, .ref 94), (1, .int x1), (2, .int 2), (3, .int 2), (4, .int x4), (5, .int x5)], [.int 0, .ref (mi_RO + 3)], (0, 0), ks i a q r)) (by rw [(by decide : (0 * 4 : Int32) = 0)]) ?_
    refine ft_go mi_k13 2 25 [(6, .int 0), (0, .ref 94), (1, .int x1), (2, .int 2), (3, .int 2), (4, .int x4), (5, .int x5)] [.int (0 + 2), .ref (mi_RO + 3)] i a q r (by rfl) ?_
    refine ko_eq (x1 := (25, [(6, .int 0), (0, .ref 94), (1, .int x1), (2, .int 2), (3, .int 2), (4, .int x4), (5, .int x5)], [.int 2, .ref (mi_RO + 3)], (0, 0), ks i a q r)) (by rw [(by decide : (0 + 2 : Int32) = 2)]) ?_
    refine ko_iaro2 mi_k13.1 (l := [1, 10, 11, 2, 20, 0, 0, 0, 0, 30, 0, 0, 0, 41, 40, 0, 0, 0, 50, 0, 0, 0, 0, 60, 70, 0, 0, 0, 0, 80, 0, 81]) (n := 32) (c := 32) (ax := (0, 0, 0, 0, 0)) (mi_k13.2 _ _ (by rfl)) (by rfl) (by rfl) rfl rfl (or152 kor2) (or153 kor2) ?_
    have r5 : ((0 : Int) ≤ (([1, 10, 11, 2, 20, 0, 0, 0, 0, 30, 0, 0, 0, 41, 40, 0, 0, 0, 50, 0, 0, 0, 0, 60, 70, 0, 0, 0, 0, 80, 0, 81] : List Int32).getD (2 : Int32).toNatClampNeg 0).toInt) ∧ ((([1, 10, 11, 2, 20, 0, 0, 0, 0, 30, 0, 0, 0, 41, 40, 0, 0, 0, 50, 0, 0, 0, 0, 60, 70, 0, 0, 0, 0, 80, 0, 81] : List Int32).getD (2 : Int32).toNatClampNeg 0).toInt ≤ 81) := kro_rng (lo := 0) (hi := 81) (by decide) ((2 : Int32).toNatClampNeg)
    refine ko_eq (x1 := (26, [(6, .int 0), (0, .ref 94), (1, .int x1), (2, .int 2), (3, .int 2), (4, .int x4), (5, .int x5)], [.int 11], (0, 0), ks i a q r)) (by rw [(by decide : (([1, 10, 11, 2, 20, 0, 0, 0, 0, 30, 0, 0, 0, 41, 40, 0, 0, 0, 50, 0, 0, 0, 0, 60, 70, 0, 0, 0, 0, 80, 0, 81] : List Int32).getD (2 : Int32).toNatClampNeg 0) = 11)]) ?_
    refine ft_go mi_k13 4 34 [(7, .int 11), (6, .int 0), (0, .ref 94), (1, .int x1), (2, .int 2), (3, .int 2), (4, .int x4), (5, .int x5)] [.int 24, .int (i 6019)] i a q r (by rfl) ?_
    refine ft_if mi_k13 (decide (24 ≤ (i 6019))) 48 37 [(7, .int 11), (6, .int 0), (0, .ref 94), (1, .int x1), (2, .int 2), (3, .int 2), (4, .int x4), (5, .int x5)] [] (by rfl) (fun c => ?_) (fun c => ?_)
    ·
      have c6 : (24 : Int32).toInt ≤ (i 6019).toInt := kd_le c; clear c
      have s7 : ((i 6019) + 1).toInt = (i 6019).toInt + (1 : Int32).toInt := kd_add (or6 c6 kor24 kor1) (or7 fi_6019.2 kor1)
      have hJ8 := kG_i hG 6019 rfl (v := ((i 6019) + 1)) ⟨(or8 c6 s7 kor24 kor1), (or127 hp3.2 s7 kor1)⟩
      have s9 : (x5 + 1).toInt = x5.toInt + (1 : Int32).toInt := kd_add (or16 hp2.1 kor1) (or128 hp2.2 kor1)
      refine ft_go mi_k13 15 72 [(7, .int 11), (6, .int 0), (0, .ref 94), (1, .int x1), (2, .int 2), (3, .int 2), (4, .int x4), (5, .int x5)] [.int (x5 + 1), .int x4, .int 2, .int x1, .ref 94] (ku i 6019 ((i 6019) + 1)) a q r (by rfl) ?_
      refine ko_callI mi_k13.1 (pc := 72) (ls := [(7, .int 11), (6, .int 0), (0, .ref 94), (1, .int x1), (2, .int 2), (3, .int 2), (4, .int x4), (5, .int x5)]) (st := [.int (x5 + 1), .int x4, .int 2, .int x1, .ref 94]) (h := ks (ku i 6019 ((i 6019) + 1)) a q r) (i := (.invokevirtual 43, 3, 14, 0, 9, 0, 301)) (mi_k13.2 _ _ (by rfl)) (ft_invS mi_pq14 (by rfl)) (cy := mi_c14) mi_pq14 rfl (ke14_94_l12_K3 hJ8.I hJ8.R x1 x4 (x5 + 1) (or25 hp0.1 hp0.2) (or59 hp1) (or131 hp2.1 hp2.2 s9 kor1) (or132 c6 hp3.2 s7 kor24 kor1)) (by decide) ?_
      intro vg10 ig10 ag10 qg10 rg10 kg10 hg10
      have hGg10 := kG_call hJ8 kg10 (by decide +kernel)
      obtain ⟨hg10, og10⟩ := hg10
      have fig10_6019 : ((0 : Int) ≤ (ig10 6019).toInt) ∧ ((ig10 6019).toInt ≤ 1000) := hGg10.I.1 6019
      have efig10_6019 : (ig10 6019).toInt = ((i 6019) + 1).toInt := kg10.ti 6019 rfl
      have z11 : (ig10 6019).toInt = (((i 6019) + 1).toInt + 0) := hg10
      have q12 : vg10 = av0_2_3 x1 x4 := og10.1
      have t13 : trS (a 96) ((i 6019) + 1) (ag10 96) (ig10 6019) [] := og10.2
      exact ft_ret mi_k13 (by rfl) (hP vg10 _ _ _ _ hGg10 ⟨(or133 efig10_6019 s7 kor1), ⟨(show vg10 = av0_2_3 x1 x4 from congrArg (fun z0_ => z0_) q12), (tr_app (es := [11]) (show trS (a 96) (i 6019) (a 96) ((i 6019) + 1) [11] from tr_no (or11 c6 kor24) (or13 c6 kor24) rfl (or12 s7 kor1)) t13 (by rfl))⟩⟩)
    ·
      have c14 : (i 6019).toInt < (24 : Int32).toInt := kd_leF c; clear c
      refine ft_go mi_k13 5 47 [(7, .int 11), (6, .int 0), (0, .ref 94), (1, .int x1), (2, .int 2), (3, .int 2), (4, .int x4), (5, .int x5)] [.int 11, .int (i 6019), .ref 96] i a q r (by rfl) ?_
      refine ko_iast3 mi_k13.1 (n := 24) (c := 24) (ax := (0, 0, 0, 0, 0)) (mi_k13.2 _ _ (by rfl)) (by rfl) (ksG96 _ _ _ _) (ksA96 _ _ _ _) (hG.I.2.1 96) rfl (or14 fi_6019.1) (or15 c14 kor24) ?_
      intro a15 ea15 fa15
      have hJ15 := kG_a3 hG 96 rfl ea15 fa15 (kd_bd _)
      have s16 : ((i 6019) + 1).toInt = (i 6019).toInt + (1 : Int32).toInt := kd_add (or16 fi_6019.1 kor1) (or7 fi_6019.2 kor1)
      have hJ17 := kG_i hJ15 6019 rfl (v := ((i 6019) + 1)) ⟨(or17 fi_6019.1 s16 kor1), (or127 hp3.2 s16 kor1)⟩
      have s18 : (x5 + 1).toInt = x5.toInt + (1 : Int32).toInt := kd_add (or16 hp2.1 kor1) (or128 hp2.2 kor1)
      refine ft_go mi_k13 15 72 [(7, .int 11), (6, .int 0), (0, .ref 94), (1, .int x1), (2, .int 2), (3, .int 2), (4, .int x4), (5, .int x5)] [.int (x5 + 1), .int x4, .int 2, .int x1, .ref 94] (ku i 6019 ((i 6019) + 1)) a15 q r (by rfl) ?_
      have r19 : ((0 : Int) ≤ ((a15 95).getD x1.toNatClampNeg 0).toInt) ∧ (((a15 95).getD x1.toNatClampNeg 0).toInt ≤ 7) := hJ17.I.2.2.1 95 (x1.toNatClampNeg)
      have u20 : ((a15 95).getD x1.toNatClampNeg 0).toInt = ((a 95).getD x1.toNatClampNeg 0).toInt := congrArg (fun z : List Int32 => (z.getD x1.toNatClampNeg 0).toInt) (fa15 95 (by decide))
      refine ko_callI mi_k13.1 (pc := 72) (ls := [(7, .int 11), (6, .int 0), (0, .ref 94), (1, .int x1), (2, .int 2), (3, .int 2), (4, .int x4), (5, .int x5)]) (st := [.int (x5 + 1), .int x4, .int 2, .int x1, .ref 94]) (h := ks (ku i 6019 ((i 6019) + 1)) a15 q r) (i := (.invokevirtual 43, 3, 14, 0, 9, 0, 301)) (mi_k13.2 _ _ (by rfl)) (ft_invS mi_pq14 (by rfl)) (cy := mi_c14) mi_pq14 rfl (ke14_94_l12_K3 hJ17.I hJ17.R x1 x4 (x5 + 1) (or25 hp0.1 hp0.2) (or58 hp1 u20) (or131 hp2.1 hp2.2 s18 kor1) (or134 fi_6019.1 hp3.2 s16 kor1)) (by decide) ?_
      intro vg21 ig21 ag21 qg21 rg21 kg21 hg21
      have hGg21 := kG_call hJ17 kg21 (by decide +kernel)
      obtain ⟨hg21, og21⟩ := hg21
      have fig21_6019 : ((0 : Int) ≤ (ig21 6019).toInt) ∧ ((ig21 6019).toInt ≤ 1000) := hGg21.I.1 6019
      have efig21_6019 : (ig21 6019).toInt = ((i 6019) + 1).toInt := kg21.ti 6019 rfl
      have z22 : (ig21 6019).toInt = (((i 6019) + 1).toInt + 0) := hg21
      have q23 : vg21 = av0_2_3 x1 x4 := og21.1
      have t24 : trS (a15 96) ((i 6019) + 1) (ag21 96) (ig21 6019) [] := og21.2
      exact ft_ret mi_k13 (by rfl) (hP vg21 _ _ _ _ hGg21 ⟨(or133 efig21_6019 s16 kor1), ⟨(show vg21 = av0_2_3 x1 x4 from congrArg (fun z0_ => z0_) q23), (tr_app (es := [11]) (show trS (a 96) (i 6019) (a15 96) ((i 6019) + 1) [11] from tr_st (or18 fi_6019.1) (or15 c14 kor24) (kset_o ea15 rfl) (or12 s16 kor1)) t24 (by rfl))⟩⟩)
  ·
    have c25 : (40 : Int32).toInt ≤ x5.toInt := kd_ltF c; clear c
    exact (or135 c25 hp2.2 kor40).elim
def yw13_94_l13_l22_K3 : kW := ([6019], [96], [], [])
set_option maxRecDepth 100000 in
theorem ke13_94_l13_l22_K3 {i : Nat → Int32} {a : Nat → List Int32} {q : Nat → List Int64} {r : Nat → Nat} (hI : kI i a q) (hr : kr r) (x1 : Int32) (x4 : Int32) (x5 : Int32) (hp0 : ((0 : Int) ≤ x1.toInt) ∧ (x1.toInt ≤ 49)) (hp1 : ((a 95).getD x1.toNatClampNeg 0).toInt = 3) (hp2 : ((0 : Int) ≤ x5.toInt) ∧ ((x5.toInt + 2) ≤ 39)) (hp3 : ((0 : Int) ≤ (i 6019).toInt) ∧ (((i 6019).toInt + 2) ≤ 900)) : km 5 13 [.ref 94, .int x1, .int 3, .int 2, .int x4, .int x5] (ks i a q r) (kVI yw13_94_l13_l22_K3 i a q r (fun v i1 a1 q1 r1 => ((i1 6019).toInt = ((i 6019).toInt + 2)) ∧ (v = av3_2_3 x1 x4 ∧ trS (a 96) (i 6019) (a1 96) (i1 6019) [40, 11]))) := by
  have hG := kG_self yw13_94_l13_l22_K3 hI hr
  refine km_ofI (q := (mi_h13, mi_c13)) rfl (by decide) (Nat.le_of_ble_eq_true rfl) ?_
  intro P hP
  have r1 : ((0 : Int) ≤ ((a 95).getD x1.toNatClampNeg 0).toInt) ∧ (((a 95).getD x1.toNatClampNeg 0).toInt ≤ 7) := hG.I.2.2.1 95 (x1.toNatClampNeg)
  have fi_6019 : ((0 : Int) ≤ (i 6019).toInt) ∧ ((i 6019).toInt ≤ 1000) := hG.I.1 6019
  refine ft_go mi_k13 2 4 [(0, .ref 94), (1, .int x1), (2, .int 3), (3, .int 2), (4, .int x4), (5, .int x5)] [.int 40, .int x5] i a q r (by rfl) ?_
  refine ft_if mi_k13 (decide (x5 < 40)) 9 7 [(0, .ref 94), (1, .int x1), (2, .int 3), (3, .int 2), (4, .int x4), (5, .int x5)] [] (by rfl) (fun c => ?_) (fun c => ?_)
  ·
    have c2 : x5.toInt < (40 : Int32).toInt := kd_lt c; clear c
    refine ft_go mi_k13 2 11 [(0, .ref 94), (1, .int x1), (2, .int 3), (3, .int 2), (4, .int x4), (5, .int x5)] [.int 2, .int 3] i a q r (by rfl) ?_
    refine ko_callPI mi_k13.1 (pc := 11) (ls := [(0, .ref 94), (1, .int x1), (2, .int 3), (3, .int 2), (4, .int x4), (5, .int x5)]) (st := [.int 2, .int 3]) (h := ks i a q r) (i := (.invokestatic 39, 3, 11, 0, 9, 0, 298)) (mi_k13.2 _ _ (by rfl)) (ft_invS mi_pq11 (by rfl)) (cy := mi_c11) mi_pq11 rfl (kc11_l03_l12 hG.I hG.R ) (by decide) ?_
    intro vg3 hg3
    have z4 : vg3.toInt = 3 := hg3
    have evvg3 := kj_eq (or59 z4) (by decide : (3 : Int32).toInt = 3)
    subst evvg3
    refine ft_go mi_k13 5 23 [(6, .int 3), (0, .ref 94), (1, .int x1), (2, .int 3), (3, .int 2), (4, .int x4), (5, .int x5)] [.int (3 * 4), .ref (mi_RO + 3)] i a q r (by rfl) ?_
    refine ko_eq (x1 := (23, [(6, .int 3), (0, .ref 94), (1, .int x1), (2, .int 3), (3, .int 2), (4, .int x4), (5, .int x5)], [.int 12, .ref (mi_RO + 3)], (0, 0), ks i a q r)) (by rw [(by decide : (3 * 4 : Int32) = 12)]) ?_
    refine ft_go mi_k13 2 25 [(6, .int 3), (0, .ref 94), (1, .int x1), (2, .int 3), (3, .int 2), (4, .int x4), (5, .int x5)] [.int (12 + 2), .ref (mi_RO + 3)] i a q r (by rfl) ?_
    refine ko_eq (x1 := (25, [(6, .int 3), (0, .ref 94), (1, .int x1), (2, .int 3), (3, .int 2), (4, .int x4), (5, .int x5)], [.int 14, .ref (mi_RO + 3)], (0, 0), ks i a q r)) (by rw [(by decide : (12 + 2 : Int32) = 14)]) ?_
    refine ko_iaro2 mi_k13.1 (l := [1, 10, 11, 2, 20, 0, 0, 0, 0, 30, 0, 0, 0, 41, 40, 0, 0, 0, 50, 0, 0, 0, 0, 60, 70, 0, 0, 0, 0, 80, 0, 81]) (n := 32) (c := 32) (ax := (0, 0, 0, 0, 0)) (mi_k13.2 _ _ (by rfl)) (by rfl) (by rfl) rfl rfl (or214 kor14) (or215 kor14) ?_
    have r5 : ((0 : Int) ≤ (([1, 10, 11, 2, 20, 0, 0, 0, 0, 30, 0, 0, 0, 41, 40, 0, 0, 0, 50, 0, 0, 0, 0, 60, 70, 0, 0, 0, 0, 80, 0, 81] : List Int32).getD (14 : Int32).toNatClampNeg 0).toInt) ∧ ((([1, 10, 11, 2, 20, 0, 0, 0, 0, 30, 0, 0, 0, 41, 40, 0, 0, 0, 50, 0, 0, 0, 0, 60, 70, 0, 0, 0, 0, 80, 0, 81] : List Int32).getD (14 : Int32).toNatClampNeg 0).toInt ≤ 81) := kro_rng (lo := 0) (hi := 81) (by decide) ((14 : Int32).toNatClampNeg)
    refine ko_eq (x1 := (26, [(6, .int 3), (0, .ref 94), (1, .int x1), (2, .int 3), (3, .int 2), (4, .int x4), (5, .int x5)], [.int 40], (0, 0), ks i a q r)) (by rw [(by decide : (([1, 10, 11, 2, 20, 0, 0, 0, 0, 30, 0, 0, 0, 41, 40, 0, 0, 0, 50, 0, 0, 0, 0, 60, 70, 0, 0, 0, 0, 80, 0, 81] : List Int32).getD (14 : Int32).toNatClampNeg 0) = 40)]) ?_
    refine ft_go mi_k13 4 34 [(7, .int 40), (6, .int 3), (0, .ref 94), (1, .int x1), (2, .int 3), (3, .int 2), (4, .int x4), (5, .int x5)] [.int 24, .int (i 6019)] i a q r (by rfl) ?_
    refine ft_if mi_k13 (decide (24 ≤ (i 6019))) 48 37 [(7, .int 40), (6, .int 3), (0, .ref 94), (1, .int x1), (2, .int 3), (3, .int 2), (4, .int x4), (5, .int x5)] [] (by rfl) (fun c => ?_) (fun c => ?_)
    ·
      have c6 : (24 : Int32).toInt ≤ (i 6019).toInt := kd_le c; clear c
      have s7 : ((i 6019) + 1).toInt = (i 6019).toInt + (1 : Int32).toInt := kd_add (or6 c6 kor24 kor1) (or7 fi_6019.2 kor1)
      have hJ8 := kG_i hG 6019 rfl (v := ((i 6019) + 1)) ⟨(or8 c6 s7 kor24 kor1), (or142 hp3.2 s7 kor1)⟩
      refine ft_go mi_k13 12 83 [(7, .int 40), (6, .int 3), (0, .ref 94), (1, .int x1), (2, .int 3), (3, .int 2), (4, .int x4), (5, .int x5)] [.int 3, .ref (mi_RO + 4), .int x1, .ref 94] (ku i 6019 ((i 6019) + 1)) a q r (by rfl) ?_
      refine ko_iaro2 mi_k13.1 (l := [(-1), 0, 0, 2, 1, 3, 0, 4]) (n := 8) (c := 8) (ax := (0, 0, 0, 0, 0)) (mi_k13.2 _ _ (by rfl)) (by rfl) (by rfl) rfl rfl (or155 kor3) (or211 kor3) ?_
      have r9 : ((-1 : Int) ≤ (([(-1), 0, 0, 2, 1, 3, 0, 4] : List Int32).getD (3 : Int32).toNatClampNeg 0).toInt) ∧ ((([(-1), 0, 0, 2, 1, 3, 0, 4] : List Int32).getD (3 : Int32).toNatClampNeg 0).toInt ≤ 4) := kro_rng (lo := -1) (hi := 4) (by decide) ((3 : Int32).toNatClampNeg)
      refine ko_eq (x1 := (84, [(7, .int 40), (6, .int 3), (0, .ref 94), (1, .int x1), (2, .int 3), (3, .int 2), (4, .int x4), (5, .int x5)], [.int 2, .int x1, .ref 94], (0, 0), ks (ku i 6019 ((i 6019) + 1)) a q r)) (by rw [(by decide : (([(-1), 0, 0, 2, 1, 3, 0, 4] : List Int32).getD (3 : Int32).toNatClampNeg 0) = 2)]) ?_
      have s10 : (x5 + 1).toInt = x5.toInt + (1 : Int32).toInt := kd_add (or16 hp2.1 kor1) (or143 hp2.2 kor1)
      refine ft_go mi_k13 8 105 [(7, .int 40), (6, .int 3), (0, .ref 94), (1, .int x1), (2, .int 3), (3, .int 2), (4, .int x4), (5, .int x5)] [.int (x5 + 1), .int x4, .int 2, .int 2, .int x1, .ref 94] (ku i 6019 ((i 6019) + 1)) a q r (by rfl) ?_
      refine ko_callI mi_k13.1 (pc := 105) (ls := [(7, .int 40), (6, .int 3), (0, .ref 94), (1, .int x1), (2, .int 3), (3, .int 2), (4, .int x4), (5, .int x5)]) (st := [.int (x5 + 1), .int x4, .int 2, .int 2, .int x1, .ref 94]) (h := ks (ku i 6019 ((i 6019) + 1)) a q r) (i := (.invokevirtual 35, 3, 13, 0, 9, 0, 297)) (mi_k13.2 _ _ (by rfl)) (ft_invS mi_pq13 (by rfl)) (cy := mi_c13) mi_pq13 rfl (ke13_94_l12_l22_K3 hJ8.I hJ8.R x1 x4 (x5 + 1) (or25 hp0.1 hp0.2) (or59 hp1) (or145 hp2.1 hp2.2 s10 kor1) (or146 c6 hp3.2 s7 kor24 kor1)) (by decide) ?_
      intro vg11 ig11 ag11 qg11 rg11 kg11 hg11
      have hGg11 := kG_call hJ8 kg11 (by decide +kernel)
      obtain ⟨hg11, og11⟩ := hg11
      have fig11_6019 : ((0 : Int) ≤ (ig11 6019).toInt) ∧ ((ig11 6019).toInt ≤ 1000) := hGg11.I.1 6019
      have z12 : (ig11 6019).toInt = (((i 6019) + 1).toInt + 1) := hg11
      have q13 : vg11 = av0_2_3 x1 x4 := og11.1
      have t14 : trS (a 96) ((i 6019) + 1) (ag11 96) (ig11 6019) [11] := og11.2
      have b15 : ((-2147483648 : Int) ≤ vg11.toInt) ∧ (vg11.toInt ≤ 2147483647) := kd_bd vg11
      refine ft_go mi_k13 6 201 [(8, .int vg11), (7, .int 40), (6, .int 3), (0, .ref 94), (1, .int x1), (2, .int 3), (3, .int 2), (4, .int x4), (5, .int x5)] [.int (vg11 * 3)] ig11 ag11 qg11 rg11 (by rfl) ?_
      exact ft_ret mi_k13 (by rfl) (hP (vg11 * 3) _ _ _ _ hGg11 ⟨(or147 s7 z12 kor1), ⟨(show (vg11 * 3) = av3_2_3 x1 x4 from congrArg (fun z0_ => (z0_ * 3)) q13), (tr_app (es := [40, 11]) (show trS (a 96) (i 6019) (a 96) ((i 6019) + 1) [40] from tr_no (or11 c6 kor24) (or13 c6 kor24) rfl (or12 s7 kor1)) t14 (by rfl))⟩⟩)
    ·
      have c16 : (i 6019).toInt < (24 : Int32).toInt := kd_leF c; clear c
      refine ft_go mi_k13 5 47 [(7, .int 40), (6, .int 3), (0, .ref 94), (1, .int x1), (2, .int 3), (3, .int 2), (4, .int x4), (5, .int x5)] [.int 40, .int (i 6019), .ref 96] i a q r (by rfl) ?_
      refine ko_iast3 mi_k13.1 (n := 24) (c := 24) (ax := (0, 0, 0, 0, 0)) (mi_k13.2 _ _ (by rfl)) (by rfl) (ksG96 _ _ _ _) (ksA96 _ _ _ _) (hG.I.2.1 96) rfl (or14 fi_6019.1) (or15 c16 kor24) ?_
      intro a17 ea17 fa17
      have hJ17 := kG_a3 hG 96 rfl ea17 fa17 (kd_bd _)
      have s18 : ((i 6019) + 1).toInt = (i 6019).toInt + (1 : Int32).toInt := kd_add (or16 fi_6019.1 kor1) (or7 fi_6019.2 kor1)
      have hJ19 := kG_i hJ17 6019 rfl (v := ((i 6019) + 1)) ⟨(or17 fi_6019.1 s18 kor1), (or142 hp3.2 s18 kor1)⟩
      refine ft_go mi_k13 12 83 [(7, .int 40), (6, .int 3), (0, .ref 94), (1, .int x1), (2, .int 3), (3, .int 2), (4, .int x4), (5, .int x5)] [.int 3, .ref (mi_RO + 4), .int x1, .ref 94] (ku i 6019 ((i 6019) + 1)) a17 q r (by rfl) ?_
      refine ko_iaro2 mi_k13.1 (l := [(-1), 0, 0, 2, 1, 3, 0, 4]) (n := 8) (c := 8) (ax := (0, 0, 0, 0, 0)) (mi_k13.2 _ _ (by rfl)) (by rfl) (by rfl) rfl rfl (or155 kor3) (or211 kor3) ?_
      have r20 : ((-1 : Int) ≤ (([(-1), 0, 0, 2, 1, 3, 0, 4] : List Int32).getD (3 : Int32).toNatClampNeg 0).toInt) ∧ ((([(-1), 0, 0, 2, 1, 3, 0, 4] : List Int32).getD (3 : Int32).toNatClampNeg 0).toInt ≤ 4) := kro_rng (lo := -1) (hi := 4) (by decide) ((3 : Int32).toNatClampNeg)
      refine ko_eq (x1 := (84, [(7, .int 40), (6, .int 3), (0, .ref 94), (1, .int x1), (2, .int 3), (3, .int 2), (4, .int x4), (5, .int x5)], [.int 2, .int x1, .ref 94], (0, 0), ks (ku i 6019 ((i 6019) + 1)) a17 q r)) (by rw [(by decide : (([(-1), 0, 0, 2, 1, 3, 0, 4] : List Int32).getD (3 : Int32).toNatClampNeg 0) = 2)]) ?_
      have s21 : (x5 + 1).toInt = x5.toInt + (1 : Int32).toInt := kd_add (or16 hp2.1 kor1) (or143 hp2.2 kor1)
      refine ft_go mi_k13 8 105 [(7, .int 40), (6, .int 3), (0, .ref 94), (1, .int x1), (2, .int 3), (3, .int 2), (4, .int x4), (5, .int x5)] [.int (x5 + 1), .int x4, .int 2, .int 2, .int x1, .ref 94] (ku i 6019 ((i 6019) + 1)) a17 q r (by rfl) ?_
      have r22 : ((0 : Int) ≤ ((a17 95).getD x1.toNatClampNeg 0).toInt) ∧ (((a17 95).getD x1.toNatClampNeg 0).toInt ≤ 7) := hJ19.I.2.2.1 95 (x1.toNatClampNeg)
      have u23 : ((a17 95).getD x1.toNatClampNeg 0).toInt = ((a 95).getD x1.toNatClampNeg 0).toInt := congrArg (fun z : List Int32 => (z.getD x1.toNatClampNeg 0).toInt) (fa17 95 (by decide))
      refine ko_callI mi_k13.1 (pc := 105) (ls := [(7, .int 40), (6, .int 3), (0, .ref 94), (1, .int x1), (2, .int 3), (3, .int 2), (4, .int x4), (5, .int x5)]) (st := [.int (x5 + 1), .int x4, .int 2, .int 2, .int x1, .ref 94]) (h := ks (ku i 6019 ((i 6019) + 1)) a17 q r) (i := (.invokevirtual 35, 3, 13, 0, 9, 0, 297)) (mi_k13.2 _ _ (by rfl)) (ft_invS mi_pq13 (by rfl)) (cy := mi_c13) mi_pq13 rfl (ke13_94_l12_l22_K3 hJ19.I hJ19.R x1 x4 (x5 + 1) (or25 hp0.1 hp0.2) (or58 hp1 u23) (or145 hp2.1 hp2.2 s21 kor1) (or148 fi_6019.1 hp3.2 s18 kor1)) (by decide) ?_
      intro vg24 ig24 ag24 qg24 rg24 kg24 hg24
      have hGg24 := kG_call hJ19 kg24 (by decide +kernel)
      obtain ⟨hg24, og24⟩ := hg24
      have fig24_6019 : ((0 : Int) ≤ (ig24 6019).toInt) ∧ ((ig24 6019).toInt ≤ 1000) := hGg24.I.1 6019
      have z25 : (ig24 6019).toInt = (((i 6019) + 1).toInt + 1) := hg24
      have q26 : vg24 = av0_2_3 x1 x4 := og24.1
      have t27 : trS (a17 96) ((i 6019) + 1) (ag24 96) (ig24 6019) [11] := og24.2
      have b28 : ((-2147483648 : Int) ≤ vg24.toInt) ∧ (vg24.toInt ≤ 2147483647) := kd_bd vg24
      refine ft_go mi_k13 6 201 [(8, .int vg24), (7, .int 40), (6, .int 3), (0, .ref 94), (1, .int x1), (2, .int 3), (3, .int 2), (4, .int x4), (5, .int x5)] [.int (vg24 * 3)] ig24 ag24 qg24 rg24 (by rfl) ?_
      exact ft_ret mi_k13 (by rfl) (hP (vg24 * 3) _ _ _ _ hGg24 ⟨(or147 s18 z25 kor1), ⟨(show (vg24 * 3) = av3_2_3 x1 x4 from congrArg (fun z0_ => (z0_ * 3)) q26), (tr_app (es := [40, 11]) (show trS (a 96) (i 6019) (a17 96) ((i 6019) + 1) [40] from tr_st (or18 fi_6019.1) (or15 c16 kor24) (kset_o ea17 rfl) (or12 s18 kor1)) t27 (by rfl))⟩⟩)
  ·
    have c29 : (40 : Int32).toInt ≤ x5.toInt := kd_ltF c; clear c
    exact (or149 c29 hp2.2 kor40).elim
def yw14_94_l13_K3 : kW := ([6019], [96], [], [])
set_option maxRecDepth 100000 in
theorem ke14_94_l13_K3 {i : Nat → Int32} {a : Nat → List Int32} {q : Nat → List Int64} {r : Nat → Nat} (hI : kI i a q) (hr : kr r) (x1 : Int32) (x3 : Int32) (x4 : Int32) (hp0 : ((0 : Int) ≤ x1.toInt) ∧ (x1.toInt ≤ 49)) (hp1 : ((a 95).getD x1.toNatClampNeg 0).toInt = 3) (hp2 : ((0 : Int) ≤ x4.toInt) ∧ ((x4.toInt + 4) ≤ 39)) (hp3 : ((0 : Int) ≤ (i 6019).toInt) ∧ (((i 6019).toInt + 6) ≤ 900)) : km 13 14 [.ref 94, .int x1, .int 3, .int x3, .int x4] (ks i a q r) (kVI yw14_94_l13_K3 i a q r (fun v i1 a1 q1 r1 => ((i1 6019).toInt = ((i 6019).toInt + 6)) ∧ (v = av0_3_3 x1 x3 ∧ trS (a 96) (i 6019) (a1 96) (i1 6019) [41, 30, 10, 1, 40, 11]))) := by
  have hG := kG_self yw14_94_l13_K3 hI hr
  refine km_ofI (q := (mi_h14, mi_c14)) rfl (by decide) (Nat.le_of_ble_eq_true rfl) ?_
  intro P hP
  have r1 : ((0 : Int) ≤ ((a 95).getD x1.toNatClampNeg 0).toInt) ∧ (((a 95).getD x1.toNatClampNeg 0).toInt ≤ 7) := hG.I.2.2.1 95 (x1.toNatClampNeg)
  have fi_6019 : ((0 : Int) ≤ (i 6019).toInt) ∧ ((i 6019).toInt ≤ 1000) := hG.I.1 6019
  refine ft_go mi_k14 3 5 [(0, .ref 94), (1, .int x1), (2, .int 3), (3, .int x3), (4, .int x4)] [.int x1, .ref 95] i a q r (by rfl) ?_
  refine ko_iald3 mi_k14.1 (n := 50) (c := 50) (ax := (0, 0, 0, 0, 0)) (mi_k14.2 _ _ (by rfl)) (by rfl) (ksG95 _ _ _ _) (hG.I.2.1 95) rfl (or14 hp0.1) (or20 hp0.2) ?_
  refine ko_eq (x1 := (6, [(0, .ref 94), (1, .int x1), (2, .int 3), (3, .int x3), (4, .int x4)], [.int 3], (0, 0), ks i a q r)) (by rw [(kj_eq (or59 hp1) (by decide) : ((a 95).getD x1.toNatClampNeg 0) = 3)]) ?_
  refine ft_go mi_k14 9 66 [(5, .int 3), (0, .ref 94), (1, .int x1), (2, .int 3), (3, .int x3), (4, .int x4)] [.int x4, .int x3, .int 1, .int 3, .int x1, .ref 94] i a q r (by rfl) ?_
  refine ko_callI mi_k14.1 (pc := 66) (ls := [(5, .int 3), (0, .ref 94), (1, .int x1), (2, .int 3), (3, .int x3), (4, .int x4)]) (st := [.int x4, .int x3, .int 1, .int 3, .int x1, .ref 94]) (h := ks i a q r) (i := (.invokevirtual 35, 3, 13, 0, 9, 0, 297)) (mi_k14.2 _ _ (by rfl)) (ft_invS mi_pq13 (by rfl)) (cy := mi_c13) mi_pq13 rfl (ke13_94_l13_l21_K3 hG.I hG.R x1 x3 x4 (or25 hp0.1 hp0.2) (or59 hp1) (or220 hp2.1 hp2.2) (or221 fi_6019.1 hp3.2)) (by decide) ?_
  intro vg2 ig2 ag2 qg2 rg2 kg2 hg2
  have hGg2 := kG_call hG kg2 (by decide +kernel)
  obtain ⟨hg2, og2⟩ := hg2
  have fig2_6019 : ((0 : Int) ≤ (ig2 6019).toInt) ∧ ((ig2 6019).toInt ≤ 1000) := hGg2.I.1 6019
  have z3 : (ig2 6019).toInt = ((i 6019).toInt + 4) := hg2
  have q4 : vg2 = av3_1_3 x1 x3 := og2.1
  have t5 : trS (a 96) (i 6019) (ag2 96) (ig2 6019) [41, 30, 10, 1] := og2.2
  refine ft_go mi_k14 8 81 [(6, .int vg2), (5, .int 3), (0, .ref 94), (1, .int x1), (2, .int 3), (3, .int x3), (4, .int x4)] [.int x4, .int 1, .int 2, .int 3, .int x1, .ref 94, .int vg2] ig2 ag2 qg2 rg2 (by rfl) ?_
  have r6 : ((0 : Int) ≤ ((ag2 95).getD x1.toNatClampNeg 0).toInt) ∧ (((ag2 95).getD x1.toNatClampNeg 0).toInt ≤ 7) := hGg2.I.2.2.1 95 (x1.toNatClampNeg)
  have u7 : ((ag2 95).getD x1.toNatClampNeg 0).toInt = ((a 95).getD x1.toNatClampNeg 0).toInt := congrArg (fun z : List Int32 => (z.getD x1.toNatClampNeg 0).toInt) (kg2.fa 95 rfl)
  refine ko_callI mi_k14.1 (pc := 81) (ls := [(6, .int vg2), (5, .int 3), (0, .ref 94), (1, .int x1), (2, .int 3), (3, .int x3), (4, .int x4)]) (st := [.int x4, .int 1, .int 2, .int 3, .int x1, .ref 94, .int vg2]) (h := ks ig2 ag2 qg2 rg2) (i := (.invokevirtual 35, 3, 13, 0, 9, 0, 297)) (mi_k14.2 _ _ (by rfl)) (ft_invS mi_pq13 (by rfl)) (cy := mi_c13) mi_pq13 rfl (ke13_94_l13_l22_K3 hGg2.I hGg2.R x1 1 x4 (or25 hp0.1 hp0.2) (or58 hp1 u7) (or222 hp2.1 hp2.2) (or223 fig2_6019.1 hp3.2 z3)) (by decide) ?_
  intro vg8 ig8 ag8 qg8 rg8 kg8 hg8
  have hGg8 := kG_call hGg2 kg8 (by decide +kernel)
  obtain ⟨hg8, og8⟩ := hg8
  have fig8_6019 : ((0 : Int) ≤ (ig8 6019).toInt) ∧ ((ig8 6019).toInt ≤ 1000) := hGg8.I.1 6019
  have z9 : (ig8 6019).toInt = ((ig2 6019).toInt + 2) := hg8
  have q10 : vg8 = av3_2_3 x1 (1 : Int32) := og8.1
  have t11 : trS (ag2 96) (ig2 6019) (ag8 96) (ig8 6019) [40, 11] := og8.2
  have b12 : ((-2147483648 : Int) ≤ vg2.toInt) ∧ (vg2.toInt ≤ 2147483647) := kd_bd vg2
  have b13 : ((-2147483648 : Int) ≤ vg8.toInt) ∧ (vg8.toInt ≤ 2147483647) := kd_bd vg8
  refine ft_go mi_k14 1 85 [(6, .int vg2), (5, .int 3), (0, .ref 94), (1, .int x1), (2, .int 3), (3, .int x3), (4, .int x4)] [.int (vg2 - vg8)] ig8 ag8 qg8 rg8 (by rfl) ?_
  exact ft_ret mi_k14 (by rfl) (hP (vg2 - vg8) _ _ _ _ hGg8 ⟨(or224 z3 z9), ⟨(show (vg2 - vg8) = av0_3_3 x1 x3 from by rw [q4, q10]; rfl), (tr_app (es := [41, 30, 10, 1, 40, 11]) t5 t11 (by rfl))⟩⟩)
def yw13_94_l13_l23_K3 : kW := ([6019], [96], [], [])
set_option maxRecDepth 100000 in
theorem ke13_94_l13_l23_K3 {i : Nat → Int32} {a : Nat → List Int32} {q : Nat → List Int64} {r : Nat → Nat} (hI : kI i a q) (hr : kr r) (x1 : Int32) (x4 : Int32) (x5 : Int32) (hp0 : ((0 : Int) ≤ x1.toInt) ∧ (x1.toInt ≤ 49)) (hp1 : ((a 95).getD x1.toNatClampNeg 0).toInt = 3) (hp2 : ((0 : Int) ≤ x5.toInt) ∧ ((x5.toInt + 5) ≤ 39)) (hp3 : ((0 : Int) ≤ (i 6019).toInt) ∧ (((i 6019).toInt + 7) ≤ 900)) : km 15 13 [.ref 94, .int x1, .int 3, .int 3, .int x4, .int x5] (ks i a q r) (kVI yw13_94_l13_l23_K3 i a q r (fun v i1 a1 q1 r1 => ((i1 6019).toInt = ((i 6019).toInt + 7)) ∧ (v = av0_3_3 x1 x4 ∧ trS (a 96) (i 6019) (a1 96) (i1 6019) [2, 41, 30, 10, 1, 40, 11]))) := by
  have hG := kG_self yw13_94_l13_l23_K3 hI hr
  refine km_ofI (q := (mi_h13, mi_c13)) rfl (by decide) (Nat.le_of_ble_eq_true rfl) ?_
  intro P hP
  have r1 : ((0 : Int) ≤ ((a 95).getD x1.toNatClampNeg 0).toInt) ∧ (((a 95).getD x1.toNatClampNeg 0).toInt ≤ 7) := hG.I.2.2.1 95 (x1.toNatClampNeg)
  have fi_6019 : ((0 : Int) ≤ (i 6019).toInt) ∧ ((i 6019).toInt ≤ 1000) := hG.I.1 6019
  refine ft_go mi_k13 2 4 [(0, .ref 94), (1, .int x1), (2, .int 3), (3, .int 3), (4, .int x4), (5, .int x5)] [.int 40, .int x5] i a q r (by rfl) ?_
  refine ft_if mi_k13 (decide (x5 < 40)) 9 7 [(0, .ref 94), (1, .int x1), (2, .int 3), (3, .int 3), (4, .int x4), (5, .int x5)] [] (by rfl) (fun c => ?_) (fun c => ?_)
  ·
    have c2 : x5.toInt < (40 : Int32).toInt := kd_lt c; clear c
    refine ft_go mi_k13 2 11 [(0, .ref 94), (1, .int x1), (2, .int 3), (3, .int 3), (4, .int x4), (5, .int x5)] [.int 3, .int 3] i a q r (by rfl) ?_
    refine ko_callPI mi_k13.1 (pc := 11) (ls := [(0, .ref 94), (1, .int x1), (2, .int 3), (3, .int 3), (4, .int x4), (5, .int x5)]) (st := [.int 3, .int 3]) (h := ks i a q r) (i := (.invokestatic 39, 3, 11, 0, 9, 0, 298)) (mi_k13.2 _ _ (by rfl)) (ft_invS mi_pq11 (by rfl)) (cy := mi_c11) mi_pq11 rfl (kc11_l03_l13 hG.I hG.R ) (by decide) ?_
    intro vg3 hg3
    have z4 : vg3.toInt = 0 := hg3
    have evvg3 := kj_eq (or37 z4) (by decide : (0 : Int32).toInt = 0)
    subst evvg3
    refine ft_go mi_k13 5 23 [(6, .int 0), (0, .ref 94), (1, .int x1), (2, .int 3), (3, .int 3), (4, .int x4), (5, .int x5)] [.int (0 * 4), .ref (mi_RO + 3)] i a q r (by rfl) ?_
    refine ko_eq (x1 := (23, [(6, .int 0), (0, .ref 94), (1, .int x1), (2, .int 3), (3, .int 3), (4, .int x4), (5, .int x5)], [.int 0, .ref (mi_RO + 3)], (0, 0), ks i a q r)) (by rw [(by decide : (0 * 4 : Int32) = 0)]) ?_
    refine ft_go mi_k13 2 25 [(6, .int 0), (0, .ref 94), (1, .int x1), (2, .int 3), (3, .int 3), (4, .int x4), (5, .int x5)] [.int (0 + 3), .ref (mi_RO + 3)] i a q r (by rfl) ?_
    refine ko_eq (x1 := (25, [(6, .int 0), (0, .ref 94), (1, .int x1), (2, .int 3), (3, .int 3), (4, .int x4), (5, .int x5)], [.int 3, .ref (mi_RO + 3)], (0, 0), ks i a q r)) (by rw [(by decide : (0 + 3 : Int32) = 3)]) ?_
    refine ko_iaro2 mi_k13.1 (l := [1, 10, 11, 2, 20, 0, 0, 0, 0, 30, 0, 0, 0, 41, 40, 0, 0, 0, 50, 0, 0, 0, 0, 60, 70, 0, 0, 0, 0, 80, 0, 81]) (n := 32) (c := 32) (ax := (0, 0, 0, 0, 0)) (mi_k13.2 _ _ (by rfl)) (by rfl) (by rfl) rfl rfl (or155 kor3) (or156 kor3) ?_
    have r5 : ((0 : Int) ≤ (([1, 10, 11, 2, 20, 0, 0, 0, 0, 30, 0, 0, 0, 41, 40, 0, 0, 0, 50, 0, 0, 0, 0, 60, 70, 0, 0, 0, 0, 80, 0, 81] : List Int32).getD (3 : Int32).toNatClampNeg 0).toInt) ∧ ((([1, 10, 11, 2, 20, 0, 0, 0, 0, 30, 0, 0, 0, 41, 40, 0, 0, 0, 50, 0, 0, 0, 0, 60, 70, 0, 0, 0, 0, 80, 0, 81] : List Int32).getD (3 : Int32).toNatClampNeg 0).toInt ≤ 81) := kro_rng (lo := 0) (hi := 81) (by decide) ((3 : Int32).toNatClampNeg)
    refine ko_eq (x1 := (26, [(6, .int 0), (0, .ref 94), (1, .int x1), (2, .int 3), (3, .int 3), (4, .int x4), (5, .int x5)], [.int 2], (0, 0), ks i a q r)) (by rw [(by decide : (([1, 10, 11, 2, 20, 0, 0, 0, 0, 30, 0, 0, 0, 41, 40, 0, 0, 0, 50, 0, 0, 0, 0, 60, 70, 0, 0, 0, 0, 80, 0, 81] : List Int32).getD (3 : Int32).toNatClampNeg 0) = 2)]) ?_
    refine ft_go mi_k13 4 34 [(7, .int 2), (6, .int 0), (0, .ref 94), (1, .int x1), (2, .int 3), (3, .int 3), (4, .int x4), (5, .int x5)] [.int 24, .int (i 6019)] i a q r (by rfl) ?_
    refine ft_if mi_k13 (decide (24 ≤ (i 6019))) 48 37 [(7, .int 2), (6, .int 0), (0, .ref 94), (1, .int x1), (2, .int 3), (3, .int 3), (4, .int x4), (5, .int x5)] [] (by rfl) (fun c => ?_) (fun c => ?_)
    ·
      have c6 : (24 : Int32).toInt ≤ (i 6019).toInt := kd_le c; clear c
      have s7 : ((i 6019) + 1).toInt = (i 6019).toInt + (1 : Int32).toInt := kd_add (or6 c6 kor24 kor1) (or7 fi_6019.2 kor1)
      have hJ8 := kG_i hG 6019 rfl (v := ((i 6019) + 1)) ⟨(or8 c6 s7 kor24 kor1), (or218 hp3.2 s7 kor1)⟩
      have s9 : (x5 + 1).toInt = x5.toInt + (1 : Int32).toInt := kd_add (or16 hp2.1 kor1) (or219 hp2.2 kor1)
      refine ft_go mi_k13 15 72 [(7, .int 2), (6, .int 0), (0, .ref 94), (1, .int x1), (2, .int 3), (3, .int 3), (4, .int x4), (5, .int x5)] [.int (x5 + 1), .int x4, .int 3, .int x1, .ref 94] (ku i 6019 ((i 6019) + 1)) a q r (by rfl) ?_
      refine ko_callI mi_k13.1 (pc := 72) (ls := [(7, .int 2), (6, .int 0), (0, .ref 94), (1, .int x1), (2, .int 3), (3, .int 3), (4, .int x4), (5, .int x5)]) (st := [.int (x5 + 1), .int x4, .int 3, .int x1, .ref 94]) (h := ks (ku i 6019 ((i 6019) + 1)) a q r) (i := (.invokevirtual 43, 3, 14, 0, 9, 0, 301)) (mi_k13.2 _ _ (by rfl)) (ft_invS mi_pq14 (by rfl)) (cy := mi_c14) mi_pq14 rfl (ke14_94_l13_K3 hJ8.I hJ8.R x1 x4 (x5 + 1) (or25 hp0.1 hp0.2) (or59 hp1) (or225 hp2.1 hp2.2 s9 kor1) (or226 c6 hp3.2 s7 kor24 kor1)) (by decide) ?_
      intro vg10 ig10 ag10 qg10 rg10 kg10 hg10
      have hGg10 := kG_call hJ8 kg10 (by decide +kernel)
      obtain ⟨hg10, og10⟩ := hg10
      have fig10_6019 : ((0 : Int) ≤ (ig10 6019).toInt) ∧ ((ig10 6019).toInt ≤ 1000) := hGg10.I.1 6019
      have z11 : (ig10 6019).toInt = (((i 6019) + 1).toInt + 6) := hg10
      have q12 : vg10 = av0_3_3 x1 x4 := og10.1
      have t13 : trS (a 96) ((i 6019) + 1) (ag10 96) (ig10 6019) [41, 30, 10, 1, 40, 11] := og10.2
      exact ft_ret mi_k13 (by rfl) (hP vg10 _ _ _ _ hGg10 ⟨(or227 s7 z11 kor1), ⟨(show vg10 = av0_3_3 x1 x4 from congrArg (fun z0_ => z0_) q12), (tr_app (es := [2, 41, 30, 10, 1, 40, 11]) (show trS (a 96) (i 6019) (a 96) ((i 6019) + 1) [2] from tr_no (or11 c6 kor24) (or13 c6 kor24) rfl (or12 s7 kor1)) t13 (by rfl))⟩⟩)
    ·
      have c14 : (i 6019).toInt < (24 : Int32).toInt := kd_leF c; clear c
      refine ft_go mi_k13 5 47 [(7, .int 2), (6, .int 0), (0, .ref 94), (1, .int x1), (2, .int 3), (3, .int 3), (4, .int x4), (5, .int x5)] [.int 2, .int (i 6019), .ref 96] i a q r (by rfl) ?_
      refine ko_iast3 mi_k13.1 (n := 24) (c := 24) (ax := (0, 0, 0, 0, 0)) (mi_k13.2 _ _ (by rfl)) (by rfl) (ksG96 _ _ _ _) (ksA96 _ _ _ _) (hG.I.2.1 96) rfl (or14 fi_6019.1) (or15 c14 kor24) ?_
      intro a15 ea15 fa15
      have hJ15 := kG_a3 hG 96 rfl ea15 fa15 (kd_bd _)
      have s16 : ((i 6019) + 1).toInt = (i 6019).toInt + (1 : Int32).toInt := kd_add (or16 fi_6019.1 kor1) (or7 fi_6019.2 kor1)
      have hJ17 := kG_i hJ15 6019 rfl (v := ((i 6019) + 1)) ⟨(or17 fi_6019.1 s16 kor1), (or218 hp3.2 s16 kor1)⟩
      have s18 : (x5 + 1).toInt = x5.toInt + (1 : Int32).toInt := kd_add (or16 hp2.1 kor1) (or219 hp2.2 kor1)
      refine ft_go mi_k13 15 72 [(7, .int 2), (6, .int 0), (0, .ref 94), (1, .int x1), (2, .int 3), (3, .int 3), (4, .int x4), (5, .int x5)] [.int (x5 + 1), .int x4, .int 3, .int x1, .ref 94] (ku i 6019 ((i 6019) + 1)) a15 q r (by rfl) ?_
      have r19 : ((0 : Int) ≤ ((a15 95).getD x1.toNatClampNeg 0).toInt) ∧ (((a15 95).getD x1.toNatClampNeg 0).toInt ≤ 7) := hJ17.I.2.2.1 95 (x1.toNatClampNeg)
      have u20 : ((a15 95).getD x1.toNatClampNeg 0).toInt = ((a 95).getD x1.toNatClampNeg 0).toInt := congrArg (fun z : List Int32 => (z.getD x1.toNatClampNeg 0).toInt) (fa15 95 (by decide))
      refine ko_callI mi_k13.1 (pc := 72) (ls := [(7, .int 2), (6, .int 0), (0, .ref 94), (1, .int x1), (2, .int 3), (3, .int 3), (4, .int x4), (5, .int x5)]) (st := [.int (x5 + 1), .int x4, .int 3, .int x1, .ref 94]) (h := ks (ku i 6019 ((i 6019) + 1)) a15 q r) (i := (.invokevirtual 43, 3, 14, 0, 9, 0, 301)) (mi_k13.2 _ _ (by rfl)) (ft_invS mi_pq14 (by rfl)) (cy := mi_c14) mi_pq14 rfl (ke14_94_l13_K3 hJ17.I hJ17.R x1 x4 (x5 + 1) (or25 hp0.1 hp0.2) (or58 hp1 u20) (or225 hp2.1 hp2.2 s18 kor1) (or228 fi_6019.1 hp3.2 s16 kor1)) (by decide) ?_
      intro vg21 ig21 ag21 qg21 rg21 kg21 hg21
      have hGg21 := kG_call hJ17 kg21 (by decide +kernel)
      obtain ⟨hg21, og21⟩ := hg21
      have fig21_6019 : ((0 : Int) ≤ (ig21 6019).toInt) ∧ ((ig21 6019).toInt ≤ 1000) := hGg21.I.1 6019
      have z22 : (ig21 6019).toInt = (((i 6019) + 1).toInt + 6) := hg21
      have q23 : vg21 = av0_3_3 x1 x4 := og21.1
      have t24 : trS (a15 96) ((i 6019) + 1) (ag21 96) (ig21 6019) [41, 30, 10, 1, 40, 11] := og21.2
      exact ft_ret mi_k13 (by rfl) (hP vg21 _ _ _ _ hGg21 ⟨(or227 s16 z22 kor1), ⟨(show vg21 = av0_3_3 x1 x4 from congrArg (fun z0_ => z0_) q23), (tr_app (es := [2, 41, 30, 10, 1, 40, 11]) (show trS (a 96) (i 6019) (a15 96) ((i 6019) + 1) [2] from tr_st (or18 fi_6019.1) (or15 c14 kor24) (kset_o ea15 rfl) (or12 s16 kor1)) t24 (by rfl))⟩⟩)
  ·
    have c25 : (40 : Int32).toInt ≤ x5.toInt := kd_ltF c; clear c
    exact (or229 c25 hp2.2 kor40).elim
def yw14_94_l10_K4 : kW := ([], [], [], [])
set_option maxRecDepth 100000 in
theorem ke14_94_l10_K4 {i : Nat → Int32} {a : Nat → List Int32} {q : Nat → List Int64} {r : Nat → Nat} (hI : kI i a q) (hr : kr r) (x1 : Int32) (x3 : Int32) (x4 : Int32) (hp0 : ((0 : Int) ≤ x1.toInt) ∧ (x1.toInt ≤ 49)) (hp1 : ((a 95).getD x1.toNatClampNeg 0).toInt = 4) (hp2 : ((0 : Int) ≤ x4.toInt) ∧ ((x4.toInt + 0) ≤ 39)) (hp3 : ((0 : Int) ≤ (i 6019).toInt) ∧ (((i 6019).toInt + 0) ≤ 900)) : km 1 14 [.ref 94, .int x1, .int 0, .int x3, .int x4] (ks i a q r) (kVI yw14_94_l10_K4 i a q r (fun v i1 a1 q1 r1 => ((i1 6019).toInt = ((i 6019).toInt + 0)) ∧ (v = av0_0_4 x1 x3 ∧ trS (a 96) (i 6019) (a1 96) (i1 6019) []))) := by
  have hG := kG_self yw14_94_l10_K4 hI hr
  refine km_ofI (q := (mi_h14, mi_c14)) rfl (by decide) (Nat.le_of_ble_eq_true rfl) ?_
  intro P hP
  have r1 : ((0 : Int) ≤ ((a 95).getD x1.toNatClampNeg 0).toInt) ∧ (((a 95).getD x1.toNatClampNeg 0).toInt ≤ 7) := hG.I.2.2.1 95 (x1.toNatClampNeg)
  have fi_6019 : ((0 : Int) ≤ (i 6019).toInt) ∧ ((i 6019).toInt ≤ 1000) := hG.I.1 6019
  refine ft_go mi_k14 3 5 [(0, .ref 94), (1, .int x1), (2, .int 0), (3, .int x3), (4, .int x4)] [.int x1, .ref 95] i a q r (by rfl) ?_
  refine ko_iald3 mi_k14.1 (n := 50) (c := 50) (ax := (0, 0, 0, 0, 0)) (mi_k14.2 _ _ (by rfl)) (by rfl) (ksG95 _ _ _ _) (hG.I.2.1 95) rfl (or14 hp0.1) (or20 hp0.2) ?_
  refine ko_eq (x1 := (6, [(0, .ref 94), (1, .int x1), (2, .int 0), (3, .int x3), (4, .int x4)], [.int 4], (0, 0), ks i a q r)) (by rw [(kj_eq (or71 hp1) (by decide) : ((a 95).getD x1.toNatClampNeg 0) = 4)]) ?_
  have b2 : ((-2147483648 : Int) ≤ x3.toInt) ∧ (x3.toInt ≤ 2147483647) := kd_bd x3
  have b3 : ((-2147483648 : Int) ≤ x1.toInt) ∧ (x1.toInt ≤ 2147483647) := kd_bd x1
  refine ft_go mi_k14 6 39 [(5, .int 4), (0, .ref 94), (1, .int x1), (2, .int 0), (3, .int x3), (4, .int x4)] [.int (x3 + x1)] i a q r (by rfl) ?_
  exact ft_ret mi_k14 (by rfl) (hP (x3 + x1) _ _ _ _ hG ⟨or130, ⟨(show (x3 + x1) = av0_0_4 x1 x3 from rfl), tr_nil (or18 fi_6019.1)⟩⟩)
def yw13_94_l10_l20_K4 : kW := ([6019], [96], [], [])
set_option maxRecDepth 100000 in
theorem ke13_94_l10_l20_K4 {i : Nat → Int32} {a : Nat → List Int32} {q : Nat → List Int64} {r : Nat → Nat} (hI : kI i a q) (hr : kr r) (x1 : Int32) (x4 : Int32) (x5 : Int32) (hp0 : ((0 : Int) ≤ x1.toInt) ∧ (x1.toInt ≤ 49)) (hp1 : ((a 95).getD x1.toNatClampNeg 0).toInt = 4) (hp2 : ((0 : Int) ≤ x5.toInt) ∧ ((x5.toInt + 1) ≤ 39)) (hp3 : ((0 : Int) ≤ (i 6019).toInt) ∧ (((i 6019).toInt + 1) ≤ 900)) : km 3 13 [.ref 94, .int x1, .int 0, .int 0, .int x4, .int x5] (ks i a q r) (kVI yw13_94_l10_l20_K4 i a q r (fun v i1 a1 q1 r1 => ((i1 6019).toInt = ((i 6019).toInt + 1)) ∧ (v = av0_0_4 x1 x4 ∧ trS (a 96) (i 6019) (a1 96) (i1 6019) [1]))) := by
  have hG := kG_self yw13_94_l10_l20_K4 hI hr
  refine km_ofI (q := (mi_h13, mi_c13)) rfl (by decide) (Nat.le_of_ble_eq_true rfl) ?_
  intro P hP
  have r1 : ((0 : Int) ≤ ((a 95).getD x1.toNatClampNeg 0).toInt) ∧ (((a 95).getD x1.toNatClampNeg 0).toInt ≤ 7) := hG.I.2.2.1 95 (x1.toNatClampNeg)
  have fi_6019 : ((0 : Int) ≤ (i 6019).toInt) ∧ ((i 6019).toInt ≤ 1000) := hG.I.1 6019
  refine ft_go mi_k13 2 4 [(0, .ref 94), (1, .int x1), (2, .int 0), (3, .int 0), (4, .int x4), (5, .int x5)] [.int 40, .int x5] i a q r (by rfl) ?_
  refine ft_if mi_k13 (decide (x5 < 40)) 9 7 [(0, .ref 94), (1, .int x1), (2, .int 0), (3, .int 0), (4, .int x4), (5, .int x5)] [] (by rfl) (fun c => ?_) (fun c => ?_)
  ·
    have c2 : x5.toInt < (40 : Int32).toInt := kd_lt c; clear c
    refine ft_go mi_k13 2 11 [(0, .ref 94), (1, .int x1), (2, .int 0), (3, .int 0), (4, .int x4), (5, .int x5)] [.int 0, .int 0] i a q r (by rfl) ?_
    refine ko_callPI mi_k13.1 (pc := 11) (ls := [(0, .ref 94), (1, .int x1), (2, .int 0), (3, .int 0), (4, .int x4), (5, .int x5)]) (st := [.int 0, .int 0]) (h := ks i a q r) (i := (.invokestatic 39, 3, 11, 0, 9, 0, 298)) (mi_k13.2 _ _ (by rfl)) (ft_invS mi_pq11 (by rfl)) (cy := mi_c11) mi_pq11 rfl (kc11_l00_l10 hG.I hG.R ) (by decide) ?_
    intro vg3 hg3
    have z4 : vg3.toInt = 0 := hg3
    have evvg3 := kj_eq (or37 z4) (by decide : (0 : Int32).toInt = 0)
    subst evvg3
    refine ft_go mi_k13 5 23 [(6, .int 0), (0, .ref 94), (1, .int x1), (2, .int 0), (3, .int 0), (4, .int x4), (5, .int x5)] [.int (0 * 4), .ref (mi_RO + 3)] i a q r (by rfl) ?_
    refine ko_eq (x1 := (23, [(6, .int 0), (0, .ref 94), (1, .int x1), (2, .int 0), (3, .int 0), (4, .int x4), (5, .int x5)], [.int 0, .ref (mi_RO + 3)], (0, 0), ks i a q r)) (by rw [(by decide : (0 * 4 : Int32) = 0)]) ?_
    refine ft_go mi_k13 2 25 [(6, .int 0), (0, .ref 94), (1, .int x1), (2, .int 0), (3, .int 0), (4, .int x4), (5, .int x5)] [.int (0 + 0), .ref (mi_RO + 3)] i a q r (by rfl) ?_
    refine ko_eq (x1 := (25, [(6, .int 0), (0, .ref 94), (1, .int x1), (2, .int 0), (3, .int 0), (4, .int x4), (5, .int x5)], [.int 0, .ref (mi_RO + 3)], (0, 0), ks i a q r)) (by rw [(by decide : (0 + 0 : Int32) = 0)]) ?_
    refine ko_iaro2 mi_k13.1 (l := [1, 10, 11, 2, 20, 0, 0, 0, 0, 30, 0, 0, 0, 41, 40, 0, 0, 0, 50, 0, 0, 0, 0, 60, 70, 0, 0, 0, 0, 80, 0, 81]) (n := 32) (c := 32) (ax := (0, 0, 0, 0, 0)) (mi_k13.2 _ _ (by rfl)) (by rfl) (by rfl) rfl rfl (or0 kor0) (or126 kor0) ?_
    have r5 : ((0 : Int) ≤ (([1, 10, 11, 2, 20, 0, 0, 0, 0, 30, 0, 0, 0, 41, 40, 0, 0, 0, 50, 0, 0, 0, 0, 60, 70, 0, 0, 0, 0, 80, 0, 81] : List Int32).getD (0 : Int32).toNatClampNeg 0).toInt) ∧ ((([1, 10, 11, 2, 20, 0, 0, 0, 0, 30, 0, 0, 0, 41, 40, 0, 0, 0, 50, 0, 0, 0, 0, 60, 70, 0, 0, 0, 0, 80, 0, 81] : List Int32).getD (0 : Int32).toNatClampNeg 0).toInt ≤ 81) := kro_rng (lo := 0) (hi := 81) (by decide) ((0 : Int32).toNatClampNeg)
    refine ko_eq (x1 := (26, [(6, .int 0), (0, .ref 94), (1, .int x1), (2, .int 0), (3, .int 0), (4, .int x4), (5, .int x5)], [.int 1], (0, 0), ks i a q r)) (by rw [(by decide : (([1, 10, 11, 2, 20, 0, 0, 0, 0, 30, 0, 0, 0, 41, 40, 0, 0, 0, 50, 0, 0, 0, 0, 60, 70, 0, 0, 0, 0, 80, 0, 81] : List Int32).getD (0 : Int32).toNatClampNeg 0) = 1)]) ?_
    refine ft_go mi_k13 4 34 [(7, .int 1), (6, .int 0), (0, .ref 94), (1, .int x1), (2, .int 0), (3, .int 0), (4, .int x4), (5, .int x5)] [.int 24, .int (i 6019)] i a q r (by rfl) ?_
    refine ft_if mi_k13 (decide (24 ≤ (i 6019))) 48 37 [(7, .int 1), (6, .int 0), (0, .ref 94), (1, .int x1), (2, .int 0), (3, .int 0), (4, .int x4), (5, .int x5)] [] (by rfl) (fun c => ?_) (fun c => ?_)
    ·
      have c6 : (24 : Int32).toInt ≤ (i 6019).toInt := kd_le c; clear c
      have s7 : ((i 6019) + 1).toInt = (i 6019).toInt + (1 : Int32).toInt := kd_add (or6 c6 kor24 kor1) (or7 fi_6019.2 kor1)
      have hJ8 := kG_i hG 6019 rfl (v := ((i 6019) + 1)) ⟨(or8 c6 s7 kor24 kor1), (or127 hp3.2 s7 kor1)⟩
      have s9 : (x5 + 1).toInt = x5.toInt + (1 : Int32).toInt := kd_add (or16 hp2.1 kor1) (or128 hp2.2 kor1)
      refine ft_go mi_k13 15 72 [(7, .int 1), (6, .int 0), (0, .ref 94), (1, .int x1), (2, .int 0), (3, .int 0), (4, .int x4), (5, .int x5)] [.int (x5 + 1), .int x4, .int 0, .int x1, .ref 94] (ku i 6019 ((i 6019) + 1)) a q r (by rfl) ?_
      refine ko_callI mi_k13.1 (pc := 72) (ls := [(7, .int 1), (6, .int 0), (0, .ref 94), (1, .int x1), (2, .int 0), (3, .int 0), (4, .int x4), (5, .int x5)]) (st := [.int (x5 + 1), .int x4, .int 0, .int x1, .ref 94]) (h := ks (ku i 6019 ((i 6019) + 1)) a q r) (i := (.invokevirtual 43, 3, 14, 0, 9, 0, 301)) (mi_k13.2 _ _ (by rfl)) (ft_invS mi_pq14 (by rfl)) (cy := mi_c14) mi_pq14 rfl (ke14_94_l10_K4 hJ8.I hJ8.R x1 x4 (x5 + 1) (or25 hp0.1 hp0.2) (or71 hp1) (or131 hp2.1 hp2.2 s9 kor1) (or132 c6 hp3.2 s7 kor24 kor1)) (by decide) ?_
      intro vg10 ig10 ag10 qg10 rg10 kg10 hg10
      have hGg10 := kG_call hJ8 kg10 (by decide +kernel)
      obtain ⟨hg10, og10⟩ := hg10
      have fig10_6019 : ((0 : Int) ≤ (ig10 6019).toInt) ∧ ((ig10 6019).toInt ≤ 1000) := hGg10.I.1 6019
      have efig10_6019 : (ig10 6019).toInt = ((i 6019) + 1).toInt := kg10.ti 6019 rfl
      have z11 : (ig10 6019).toInt = (((i 6019) + 1).toInt + 0) := hg10
      have q12 : vg10 = av0_0_4 x1 x4 := og10.1
      have t13 : trS (a 96) ((i 6019) + 1) (ag10 96) (ig10 6019) [] := og10.2
      exact ft_ret mi_k13 (by rfl) (hP vg10 _ _ _ _ hGg10 ⟨(or133 efig10_6019 s7 kor1), ⟨(show vg10 = av0_0_4 x1 x4 from congrArg (fun z0_ => z0_) q12), (tr_app (es := [1]) (show trS (a 96) (i 6019) (a 96) ((i 6019) + 1) [1] from tr_no (or11 c6 kor24) (or13 c6 kor24) rfl (or12 s7 kor1)) t13 (by rfl))⟩⟩)
    ·
      have c14 : (i 6019).toInt < (24 : Int32).toInt := kd_leF c; clear c
      refine ft_go mi_k13 5 47 [(7, .int 1), (6, .int 0), (0, .ref 94), (1, .int x1), (2, .int 0), (3, .int 0), (4, .int x4), (5, .int x5)] [.int 1, .int (i 6019), .ref 96] i a q r (by rfl) ?_
      refine ko_iast3 mi_k13.1 (n := 24) (c := 24) (ax := (0, 0, 0, 0, 0)) (mi_k13.2 _ _ (by rfl)) (by rfl) (ksG96 _ _ _ _) (ksA96 _ _ _ _) (hG.I.2.1 96) rfl (or14 fi_6019.1) (or15 c14 kor24) ?_
      intro a15 ea15 fa15
      have hJ15 := kG_a3 hG 96 rfl ea15 fa15 (kd_bd _)
      have s16 : ((i 6019) + 1).toInt = (i 6019).toInt + (1 : Int32).toInt := kd_add (or16 fi_6019.1 kor1) (or7 fi_6019.2 kor1)
      have hJ17 := kG_i hJ15 6019 rfl (v := ((i 6019) + 1)) ⟨(or17 fi_6019.1 s16 kor1), (or127 hp3.2 s16 kor1)⟩
      have s18 : (x5 + 1).toInt = x5.toInt + (1 : Int32).toInt := kd_add (or16 hp2.1 kor1) (or128 hp2.2 kor1)
      refine ft_go mi_k13 15 72 [(7, .int 1), (6, .int 0), (0, .ref 94), (1, .int x1), (2, .int 0), (3, .int 0), (4, .int x4), (5, .int x5)] [.int (x5 + 1), .int x4, .int 0, .int x1, .ref 94] (ku i 6019 ((i 6019) + 1)) a15 q r (by rfl) ?_
      have r19 : ((0 : Int) ≤ ((a15 95).getD x1.toNatClampNeg 0).toInt) ∧ (((a15 95).getD x1.toNatClampNeg 0).toInt ≤ 7) := hJ17.I.2.2.1 95 (x1.toNatClampNeg)
      have u20 : ((a15 95).getD x1.toNatClampNeg 0).toInt = ((a 95).getD x1.toNatClampNeg 0).toInt := congrArg (fun z : List Int32 => (z.getD x1.toNatClampNeg 0).toInt) (fa15 95 (by decide))
      refine ko_callI mi_k13.1 (pc := 72) (ls := [(7, .int 1), (6, .int 0), (0, .ref 94), (1, .int x1), (2, .int 0), (3, .int 0), (4, .int x4), (5, .int x5)]) (st := [.int (x5 + 1), .int x4, .int 0, .int x1, .ref 94]) (h := ks (ku i 6019 ((i 6019) + 1)) a15 q r) (i := (.invokevirtual 43, 3, 14, 0, 9, 0, 301)) (mi_k13.2 _ _ (by rfl)) (ft_invS mi_pq14 (by rfl)) (cy := mi_c14) mi_pq14 rfl (ke14_94_l10_K4 hJ17.I hJ17.R x1 x4 (x5 + 1) (or25 hp0.1 hp0.2) (or70 hp1 u20) (or131 hp2.1 hp2.2 s18 kor1) (or134 fi_6019.1 hp3.2 s16 kor1)) (by decide) ?_
      intro vg21 ig21 ag21 qg21 rg21 kg21 hg21
      have hGg21 := kG_call hJ17 kg21 (by decide +kernel)
      obtain ⟨hg21, og21⟩ := hg21
      have fig21_6019 : ((0 : Int) ≤ (ig21 6019).toInt) ∧ ((ig21 6019).toInt ≤ 1000) := hGg21.I.1 6019
      have efig21_6019 : (ig21 6019).toInt = ((i 6019) + 1).toInt := kg21.ti 6019 rfl
      have z22 : (ig21 6019).toInt = (((i 6019) + 1).toInt + 0) := hg21
      have q23 : vg21 = av0_0_4 x1 x4 := og21.1
      have t24 : trS (a15 96) ((i 6019) + 1) (ag21 96) (ig21 6019) [] := og21.2
      exact ft_ret mi_k13 (by rfl) (hP vg21 _ _ _ _ hGg21 ⟨(or133 efig21_6019 s16 kor1), ⟨(show vg21 = av0_0_4 x1 x4 from congrArg (fun z0_ => z0_) q23), (tr_app (es := [1]) (show trS (a 96) (i 6019) (a15 96) ((i 6019) + 1) [1] from tr_st (or18 fi_6019.1) (or15 c14 kor24) (kset_o ea15 rfl) (or12 s16 kor1)) t24 (by rfl))⟩⟩)
  ·
    have c25 : (40 : Int32).toInt ≤ x5.toInt := kd_ltF c; clear c
    exact (or135 c25 hp2.2 kor40).elim
def yw13_94_l14_l20_K4 : kW := ([6019], [96], [], [])
set_option maxRecDepth 100000 in
theorem ke13_94_l14_l20_K4 {i : Nat → Int32} {a : Nat → List Int32} {q : Nat → List Int64} {r : Nat → Nat} (hI : kI i a q) (hr : kr r) (x1 : Int32) (x4 : Int32) (x5 : Int32) (hp0 : ((0 : Int) ≤ x1.toInt) ∧ (x1.toInt ≤ 49)) (hp1 : ((a 95).getD x1.toNatClampNeg 0).toInt = 4) (hp2 : ((0 : Int) ≤ x5.toInt) ∧ ((x5.toInt + 2) ≤ 39)) (hp3 : ((0 : Int) ≤ (i 6019).toInt) ∧ (((i 6019).toInt + 2) ≤ 900)) : km 5 13 [.ref 94, .int x1, .int 4, .int 0, .int x4, .int x5] (ks i a q r) (kVI yw13_94_l14_l20_K4 i a q r (fun v i1 a1 q1 r1 => ((i1 6019).toInt = ((i 6019).toInt + 2)) ∧ (v = av1_0_4 x1 x4 ∧ trS (a 96) (i 6019) (a1 96) (i1 6019) [20, 1]))) := by
  have hG := kG_self yw13_94_l14_l20_K4 hI hr
  refine km_ofI (q := (mi_h13, mi_c13)) rfl (by decide) (Nat.le_of_ble_eq_true rfl) ?_
  intro P hP
  have r1 : ((0 : Int) ≤ ((a 95).getD x1.toNatClampNeg 0).toInt) ∧ (((a 95).getD x1.toNatClampNeg 0).toInt ≤ 7) := hG.I.2.2.1 95 (x1.toNatClampNeg)
  have fi_6019 : ((0 : Int) ≤ (i 6019).toInt) ∧ ((i 6019).toInt ≤ 1000) := hG.I.1 6019
  refine ft_go mi_k13 2 4 [(0, .ref 94), (1, .int x1), (2, .int 4), (3, .int 0), (4, .int x4), (5, .int x5)] [.int 40, .int x5] i a q r (by rfl) ?_
  refine ft_if mi_k13 (decide (x5 < 40)) 9 7 [(0, .ref 94), (1, .int x1), (2, .int 4), (3, .int 0), (4, .int x4), (5, .int x5)] [] (by rfl) (fun c => ?_) (fun c => ?_)
  ·
    have c2 : x5.toInt < (40 : Int32).toInt := kd_lt c; clear c
    refine ft_go mi_k13 2 11 [(0, .ref 94), (1, .int x1), (2, .int 4), (3, .int 0), (4, .int x4), (5, .int x5)] [.int 0, .int 4] i a q r (by rfl) ?_
    refine ko_callPI mi_k13.1 (pc := 11) (ls := [(0, .ref 94), (1, .int x1), (2, .int 4), (3, .int 0), (4, .int x4), (5, .int x5)]) (st := [.int 0, .int 4]) (h := ks i a q r) (i := (.invokestatic 39, 3, 11, 0, 9, 0, 298)) (mi_k13.2 _ _ (by rfl)) (ft_invS mi_pq11 (by rfl)) (cy := mi_c11) mi_pq11 rfl (kc11_l04_l10 hG.I hG.R ) (by decide) ?_
    intro vg3 hg3
    have z4 : vg3.toInt = 1 := hg3
    have evvg3 := kj_eq (or43 z4) (by decide : (1 : Int32).toInt = 1)
    subst evvg3
    refine ft_go mi_k13 5 23 [(6, .int 1), (0, .ref 94), (1, .int x1), (2, .int 4), (3, .int 0), (4, .int x4), (5, .int x5)] [.int (1 * 4), .ref (mi_RO + 3)] i a q r (by rfl) ?_
    refine ko_eq (x1 := (23, [(6, .int 1), (0, .ref 94), (1, .int x1), (2, .int 4), (3, .int 0), (4, .int x4), (5, .int x5)], [.int 4, .ref (mi_RO + 3)], (0, 0), ks i a q r)) (by rw [(by decide : (1 * 4 : Int32) = 4)]) ?_
    refine ft_go mi_k13 2 25 [(6, .int 1), (0, .ref 94), (1, .int x1), (2, .int 4), (3, .int 0), (4, .int x4), (5, .int x5)] [.int (4 + 0), .ref (mi_RO + 3)] i a q r (by rfl) ?_
    refine ko_eq (x1 := (25, [(6, .int 1), (0, .ref 94), (1, .int x1), (2, .int 4), (3, .int 0), (4, .int x4), (5, .int x5)], [.int 4, .ref (mi_RO + 3)], (0, 0), ks i a q r)) (by rw [(by decide : (4 + 0 : Int32) = 4)]) ?_
    refine ko_iaro2 mi_k13.1 (l := [1, 10, 11, 2, 20, 0, 0, 0, 0, 30, 0, 0, 0, 41, 40, 0, 0, 0, 50, 0, 0, 0, 0, 60, 70, 0, 0, 0, 0, 80, 0, 81]) (n := 32) (c := 32) (ax := (0, 0, 0, 0, 0)) (mi_k13.2 _ _ (by rfl)) (by rfl) (by rfl) rfl rfl (or173 kor4) (or174 kor4) ?_
    have r5 : ((0 : Int) ≤ (([1, 10, 11, 2, 20, 0, 0, 0, 0, 30, 0, 0, 0, 41, 40, 0, 0, 0, 50, 0, 0, 0, 0, 60, 70, 0, 0, 0, 0, 80, 0, 81] : List Int32).getD (4 : Int32).toNatClampNeg 0).toInt) ∧ ((([1, 10, 11, 2, 20, 0, 0, 0, 0, 30, 0, 0, 0, 41, 40, 0, 0, 0, 50, 0, 0, 0, 0, 60, 70, 0, 0, 0, 0, 80, 0, 81] : List Int32).getD (4 : Int32).toNatClampNeg 0).toInt ≤ 81) := kro_rng (lo := 0) (hi := 81) (by decide) ((4 : Int32).toNatClampNeg)
    refine ko_eq (x1 := (26, [(6, .int 1), (0, .ref 94), (1, .int x1), (2, .int 4), (3, .int 0), (4, .int x4), (5, .int x5)], [.int 20], (0, 0), ks i a q r)) (by rw [(by decide : (([1, 10, 11, 2, 20, 0, 0, 0, 0, 30, 0, 0, 0, 41, 40, 0, 0, 0, 50, 0, 0, 0, 0, 60, 70, 0, 0, 0, 0, 80, 0, 81] : List Int32).getD (4 : Int32).toNatClampNeg 0) = 20)]) ?_
    refine ft_go mi_k13 4 34 [(7, .int 20), (6, .int 1), (0, .ref 94), (1, .int x1), (2, .int 4), (3, .int 0), (4, .int x4), (5, .int x5)] [.int 24, .int (i 6019)] i a q r (by rfl) ?_
    refine ft_if mi_k13 (decide (24 ≤ (i 6019))) 48 37 [(7, .int 20), (6, .int 1), (0, .ref 94), (1, .int x1), (2, .int 4), (3, .int 0), (4, .int x4), (5, .int x5)] [] (by rfl) (fun c => ?_) (fun c => ?_)
    ·
      have c6 : (24 : Int32).toInt ≤ (i 6019).toInt := kd_le c; clear c
      have s7 : ((i 6019) + 1).toInt = (i 6019).toInt + (1 : Int32).toInt := kd_add (or6 c6 kor24 kor1) (or7 fi_6019.2 kor1)
      have hJ8 := kG_i hG 6019 rfl (v := ((i 6019) + 1)) ⟨(or8 c6 s7 kor24 kor1), (or142 hp3.2 s7 kor1)⟩
      refine ft_go mi_k13 12 83 [(7, .int 20), (6, .int 1), (0, .ref 94), (1, .int x1), (2, .int 4), (3, .int 0), (4, .int x4), (5, .int x5)] [.int 1, .ref (mi_RO + 4), .int x1, .ref 94] (ku i 6019 ((i 6019) + 1)) a q r (by rfl) ?_
      refine ko_iaro2 mi_k13.1 (l := [(-1), 0, 0, 2, 1, 3, 0, 4]) (n := 8) (c := 8) (ax := (0, 0, 0, 0, 0)) (mi_k13.2 _ _ (by rfl)) (by rfl) (by rfl) rfl rfl (or140 kor1) (or175 kor1) ?_
      have r9 : ((-1 : Int) ≤ (([(-1), 0, 0, 2, 1, 3, 0, 4] : List Int32).getD (1 : Int32).toNatClampNeg 0).toInt) ∧ ((([(-1), 0, 0, 2, 1, 3, 0, 4] : List Int32).getD (1 : Int32).toNatClampNeg 0).toInt ≤ 4) := kro_rng (lo := -1) (hi := 4) (by decide) ((1 : Int32).toNatClampNeg)
      refine ko_eq (x1 := (84, [(7, .int 20), (6, .int 1), (0, .ref 94), (1, .int x1), (2, .int 4), (3, .int 0), (4, .int x4), (5, .int x5)], [.int 0, .int x1, .ref 94], (0, 0), ks (ku i 6019 ((i 6019) + 1)) a q r)) (by rw [(by decide : (([(-1), 0, 0, 2, 1, 3, 0, 4] : List Int32).getD (1 : Int32).toNatClampNeg 0) = 0)]) ?_
      have s10 : (x5 + 1).toInt = x5.toInt + (1 : Int32).toInt := kd_add (or16 hp2.1 kor1) (or143 hp2.2 kor1)
      refine ft_go mi_k13 8 105 [(7, .int 20), (6, .int 1), (0, .ref 94), (1, .int x1), (2, .int 4), (3, .int 0), (4, .int x4), (5, .int x5)] [.int (x5 + 1), .int x4, .int 0, .int 0, .int x1, .ref 94] (ku i 6019 ((i 6019) + 1)) a q r (by rfl) ?_
      refine ko_callI mi_k13.1 (pc := 105) (ls := [(7, .int 20), (6, .int 1), (0, .ref 94), (1, .int x1), (2, .int 4), (3, .int 0), (4, .int x4), (5, .int x5)]) (st := [.int (x5 + 1), .int x4, .int 0, .int 0, .int x1, .ref 94]) (h := ks (ku i 6019 ((i 6019) + 1)) a q r) (i := (.invokevirtual 35, 3, 13, 0, 9, 0, 297)) (mi_k13.2 _ _ (by rfl)) (ft_invS mi_pq13 (by rfl)) (cy := mi_c13) mi_pq13 rfl (ke13_94_l10_l20_K4 hJ8.I hJ8.R x1 x4 (x5 + 1) (or25 hp0.1 hp0.2) (or71 hp1) (or145 hp2.1 hp2.2 s10 kor1) (or146 c6 hp3.2 s7 kor24 kor1)) (by decide) ?_
      intro vg11 ig11 ag11 qg11 rg11 kg11 hg11
      have hGg11 := kG_call hJ8 kg11 (by decide +kernel)
      obtain ⟨hg11, og11⟩ := hg11
      have fig11_6019 : ((0 : Int) ≤ (ig11 6019).toInt) ∧ ((ig11 6019).toInt ≤ 1000) := hGg11.I.1 6019
      have z12 : (ig11 6019).toInt = (((i 6019) + 1).toInt + 1) := hg11
      have q13 : vg11 = av0_0_4 x1 x4 := og11.1
      have t14 : trS (a 96) ((i 6019) + 1) (ag11 96) (ig11 6019) [1] := og11.2
      have b15 : ((-2147483648 : Int) ≤ vg11.toInt) ∧ (vg11.toInt ≤ 2147483647) := kd_bd vg11
      refine ft_go mi_k13 6 192 [(8, .int vg11), (7, .int 20), (6, .int 1), (0, .ref 94), (1, .int x1), (2, .int 4), (3, .int 0), (4, .int x4), (5, .int x5)] [.int (vg11 + 3)] ig11 ag11 qg11 rg11 (by rfl) ?_
      exact ft_ret mi_k13 (by rfl) (hP (vg11 + 3) _ _ _ _ hGg11 ⟨(or147 s7 z12 kor1), ⟨(show (vg11 + 3) = av1_0_4 x1 x4 from congrArg (fun z0_ => (z0_ + 3)) q13), (tr_app (es := [20, 1]) (show trS (a 96) (i 6019) (a 96) ((i 6019) + 1) [20] from tr_no (or11 c6 kor24) (or13 c6 kor24) rfl (or12 s7 kor1)) t14 (by rfl))⟩⟩)
    ·
      have c16 : (i 6019).toInt < (24 : Int32).toInt := kd_leF c; clear c
      refine ft_go mi_k13 5 47 [(7, .int 20), (6, .int 1), (0, .ref 94), (1, .int x1), (2, .int 4), (3, .int 0), (4, .int x4), (5, .int x5)] [.int 20, .int (i 6019), .ref 96] i a q r (by rfl) ?_
      refine ko_iast3 mi_k13.1 (n := 24) (c := 24) (ax := (0, 0, 0, 0, 0)) (mi_k13.2 _ _ (by rfl)) (by rfl) (ksG96 _ _ _ _) (ksA96 _ _ _ _) (hG.I.2.1 96) rfl (or14 fi_6019.1) (or15 c16 kor24) ?_
      intro a17 ea17 fa17
      have hJ17 := kG_a3 hG 96 rfl ea17 fa17 (kd_bd _)
      have s18 : ((i 6019) + 1).toInt = (i 6019).toInt + (1 : Int32).toInt := kd_add (or16 fi_6019.1 kor1) (or7 fi_6019.2 kor1)
      have hJ19 := kG_i hJ17 6019 rfl (v := ((i 6019) + 1)) ⟨(or17 fi_6019.1 s18 kor1), (or142 hp3.2 s18 kor1)⟩
      refine ft_go mi_k13 12 83 [(7, .int 20), (6, .int 1), (0, .ref 94), (1, .int x1), (2, .int 4), (3, .int 0), (4, .int x4), (5, .int x5)] [.int 1, .ref (mi_RO + 4), .int x1, .ref 94] (ku i 6019 ((i 6019) + 1)) a17 q r (by rfl) ?_
      refine ko_iaro2 mi_k13.1 (l := [(-1), 0, 0, 2, 1, 3, 0, 4]) (n := 8) (c := 8) (ax := (0, 0, 0, 0, 0)) (mi_k13.2 _ _ (by rfl)) (by rfl) (by rfl) rfl rfl (or140 kor1) (or175 kor1) ?_
      have r20 : ((-1 : Int) ≤ (([(-1), 0, 0, 2, 1, 3, 0, 4] : List Int32).getD (1 : Int32).toNatClampNeg 0).toInt) ∧ ((([(-1), 0, 0, 2, 1, 3, 0, 4] : List Int32).getD (1 : Int32).toNatClampNeg 0).toInt ≤ 4) := kro_rng (lo := -1) (hi := 4) (by decide) ((1 : Int32).toNatClampNeg)
      refine ko_eq (x1 := (84, [(7, .int 20), (6, .int 1), (0, .ref 94), (1, .int x1), (2, .int 4), (3, .int 0), (4, .int x4), (5, .int x5)], [.int 0, .int x1, .ref 94], (0, 0), ks (ku i 6019 ((i 6019) + 1)) a17 q r)) (by rw [(by decide : (([(-1), 0, 0, 2, 1, 3, 0, 4] : List Int32).getD (1 : Int32).toNatClampNeg 0) = 0)]) ?_
      have s21 : (x5 + 1).toInt = x5.toInt + (1 : Int32).toInt := kd_add (or16 hp2.1 kor1) (or143 hp2.2 kor1)
      refine ft_go mi_k13 8 105 [(7, .int 20), (6, .int 1), (0, .ref 94), (1, .int x1), (2, .int 4), (3, .int 0), (4, .int x4), (5, .int x5)] [.int (x5 + 1), .int x4, .int 0, .int 0, .int x1, .ref 94] (ku i 6019 ((i 6019) + 1)) a17 q r (by rfl) ?_
      have r22 : ((0 : Int) ≤ ((a17 95).getD x1.toNatClampNeg 0).toInt) ∧ (((a17 95).getD x1.toNatClampNeg 0).toInt ≤ 7) := hJ19.I.2.2.1 95 (x1.toNatClampNeg)
      have u23 : ((a17 95).getD x1.toNatClampNeg 0).toInt = ((a 95).getD x1.toNatClampNeg 0).toInt := congrArg (fun z : List Int32 => (z.getD x1.toNatClampNeg 0).toInt) (fa17 95 (by decide))
      refine ko_callI mi_k13.1 (pc := 105) (ls := [(7, .int 20), (6, .int 1), (0, .ref 94), (1, .int x1), (2, .int 4), (3, .int 0), (4, .int x4), (5, .int x5)]) (st := [.int (x5 + 1), .int x4, .int 0, .int 0, .int x1, .ref 94]) (h := ks (ku i 6019 ((i 6019) + 1)) a17 q r) (i := (.invokevirtual 35, 3, 13, 0, 9, 0, 297)) (mi_k13.2 _ _ (by rfl)) (ft_invS mi_pq13 (by rfl)) (cy := mi_c13) mi_pq13 rfl (ke13_94_l10_l20_K4 hJ19.I hJ19.R x1 x4 (x5 + 1) (or25 hp0.1 hp0.2) (or70 hp1 u23) (or145 hp2.1 hp2.2 s21 kor1) (or148 fi_6019.1 hp3.2 s18 kor1)) (by decide) ?_
      intro vg24 ig24 ag24 qg24 rg24 kg24 hg24
      have hGg24 := kG_call hJ19 kg24 (by decide +kernel)
      obtain ⟨hg24, og24⟩ := hg24
      have fig24_6019 : ((0 : Int) ≤ (ig24 6019).toInt) ∧ ((ig24 6019).toInt ≤ 1000) := hGg24.I.1 6019
      have z25 : (ig24 6019).toInt = (((i 6019) + 1).toInt + 1) := hg24
      have q26 : vg24 = av0_0_4 x1 x4 := og24.1
      have t27 : trS (a17 96) ((i 6019) + 1) (ag24 96) (ig24 6019) [1] := og24.2
      have b28 : ((-2147483648 : Int) ≤ vg24.toInt) ∧ (vg24.toInt ≤ 2147483647) := kd_bd vg24
      refine ft_go mi_k13 6 192 [(8, .int vg24), (7, .int 20), (6, .int 1), (0, .ref 94), (1, .int x1), (2, .int 4), (3, .int 0), (4, .int x4), (5, .int x5)] [.int (vg24 + 3)] ig24 ag24 qg24 rg24 (by rfl) ?_
      exact ft_ret mi_k13 (by rfl) (hP (vg24 + 3) _ _ _ _ hGg24 ⟨(or147 s18 z25 kor1), ⟨(show (vg24 + 3) = av1_0_4 x1 x4 from congrArg (fun z0_ => (z0_ + 3)) q26), (tr_app (es := [20, 1]) (show trS (a 96) (i 6019) (a17 96) ((i 6019) + 1) [20] from tr_st (or18 fi_6019.1) (or15 c16 kor24) (kset_o ea17 rfl) (or12 s18 kor1)) t27 (by rfl))⟩⟩)
  ·
    have c29 : (40 : Int32).toInt ≤ x5.toInt := kd_ltF c; clear c
    exact (or149 c29 hp2.2 kor40).elim
def yw14_94_l11_K4 : kW := ([6019], [96], [], [])
set_option maxRecDepth 100000 in
theorem ke14_94_l11_K4 {i : Nat → Int32} {a : Nat → List Int32} {q : Nat → List Int64} {r : Nat → Nat} (hI : kI i a q) (hr : kr r) (x1 : Int32) (x3 : Int32) (x4 : Int32) (hp0 : ((0 : Int) ≤ x1.toInt) ∧ (x1.toInt ≤ 49)) (hp1 : ((a 95).getD x1.toNatClampNeg 0).toInt = 4) (hp2 : ((0 : Int) ≤ x4.toInt) ∧ ((x4.toInt + 2) ≤ 39)) (hp3 : ((0 : Int) ≤ (i 6019).toInt) ∧ (((i 6019).toInt + 2) ≤ 900)) : km 7 14 [.ref 94, .int x1, .int 1, .int x3, .int x4] (ks i a q r) (kVI yw14_94_l11_K4 i a q r (fun v i1 a1 q1 r1 => ((i1 6019).toInt = ((i 6019).toInt + 2)) ∧ (v = av0_1_4 x1 x3 ∧ trS (a 96) (i 6019) (a1 96) (i1 6019) [20, 1]))) := by
  have hG := kG_self yw14_94_l11_K4 hI hr
  refine km_ofI (q := (mi_h14, mi_c14)) rfl (by decide) (Nat.le_of_ble_eq_true rfl) ?_
  intro P hP
  have r1 : ((0 : Int) ≤ ((a 95).getD x1.toNatClampNeg 0).toInt) ∧ (((a 95).getD x1.toNatClampNeg 0).toInt ≤ 7) := hG.I.2.2.1 95 (x1.toNatClampNeg)
  have fi_6019 : ((0 : Int) ≤ (i 6019).toInt) ∧ ((i 6019).toInt ≤ 1000) := hG.I.1 6019
  refine ft_go mi_k14 3 5 [(0, .ref 94), (1, .int x1), (2, .int 1), (3, .int x3), (4, .int x4)] [.int x1, .ref 95] i a q r (by rfl) ?_
  refine ko_iald3 mi_k14.1 (n := 50) (c := 50) (ax := (0, 0, 0, 0, 0)) (mi_k14.2 _ _ (by rfl)) (by rfl) (ksG95 _ _ _ _) (hG.I.2.1 95) rfl (or14 hp0.1) (or20 hp0.2) ?_
  refine ko_eq (x1 := (6, [(0, .ref 94), (1, .int x1), (2, .int 1), (3, .int x3), (4, .int x4)], [.int 4], (0, 0), ks i a q r)) (by rw [(kj_eq (or71 hp1) (by decide) : ((a 95).getD x1.toNatClampNeg 0) = 4)]) ?_
  refine ft_go mi_k14 9 48 [(5, .int 4), (0, .ref 94), (1, .int x1), (2, .int 1), (3, .int x3), (4, .int x4)] [.int x4, .int x3, .int 0, .int 4, .int x1, .ref 94] i a q r (by rfl) ?_
  refine ko_callI mi_k14.1 (pc := 48) (ls := [(5, .int 4), (0, .ref 94), (1, .int x1), (2, .int 1), (3, .int x3), (4, .int x4)]) (st := [.int x4, .int x3, .int 0, .int 4, .int x1, .ref 94]) (h := ks i a q r) (i := (.invokevirtual 35, 3, 13, 0, 9, 0, 297)) (mi_k14.2 _ _ (by rfl)) (ft_invS mi_pq13 (by rfl)) (cy := mi_c13) mi_pq13 rfl (ke13_94_l14_l20_K4 hG.I hG.R x1 x3 x4 (or25 hp0.1 hp0.2) (or71 hp1) (or159 hp2.1 hp2.2) (or72 fi_6019.1 hp3.2)) (by decide) ?_
  intro vg2 ig2 ag2 qg2 rg2 kg2 hg2
  have hGg2 := kG_call hG kg2 (by decide +kernel)
  obtain ⟨hg2, og2⟩ := hg2
  have fig2_6019 : ((0 : Int) ≤ (ig2 6019).toInt) ∧ ((ig2 6019).toInt ≤ 1000) := hGg2.I.1 6019
  have z3 : (ig2 6019).toInt = ((i 6019).toInt + 2) := hg2
  have q4 : vg2 = av1_0_4 x1 x3 := og2.1
  have t5 : trS (a 96) (i 6019) (ag2 96) (ig2 6019) [20, 1] := og2.2
  have b6 : ((-2147483648 : Int) ≤ vg2.toInt) ∧ (vg2.toInt ≤ 2147483647) := kd_bd vg2
  refine ft_go mi_k14 2 53 [(5, .int 4), (0, .ref 94), (1, .int x1), (2, .int 1), (3, .int x3), (4, .int x4)] [.int (vg2 * 2)] ig2 ag2 qg2 rg2 (by rfl) ?_
  exact ft_ret mi_k14 (by rfl) (hP (vg2 * 2) _ _ _ _ hGg2 ⟨(or73 z3), ⟨(show (vg2 * 2) = av0_1_4 x1 x3 from congrArg (fun z0_ => (z0_ * 2)) q4), t5⟩⟩)
def yw13_94_l14_l21_K4 : kW := ([6019], [96], [], [])
set_option maxRecDepth 100000 in
theorem ke13_94_l14_l21_K4 {i : Nat → Int32} {a : Nat → List Int32} {q : Nat → List Int64} {r : Nat → Nat} (hI : kI i a q) (hr : kr r) (x1 : Int32) (x4 : Int32) (x5 : Int32) (hp0 : ((0 : Int) ≤ x1.toInt) ∧ (x1.toInt ≤ 49)) (hp1 : ((a 95).getD x1.toNatClampNeg 0).toInt = 4) (hp2 : ((0 : Int) ≤ x5.toInt) ∧ ((x5.toInt + 3) ≤ 39)) (hp3 : ((0 : Int) ≤ (i 6019).toInt) ∧ (((i 6019).toInt + 3) ≤ 900)) : km 9 13 [.ref 94, .int x1, .int 4, .int 1, .int x4, .int x5] (ks i a q r) (kVI yw13_94_l14_l21_K4 i a q r (fun v i1 a1 q1 r1 => ((i1 6019).toInt = ((i 6019).toInt + 3)) ∧ (v = av0_1_4 x1 x4 ∧ trS (a 96) (i 6019) (a1 96) (i1 6019) [10, 20, 1]))) := by
  have hG := kG_self yw13_94_l14_l21_K4 hI hr
  refine km_ofI (q := (mi_h13, mi_c13)) rfl (by decide) (Nat.le_of_ble_eq_true rfl) ?_
  intro P hP
  have r1 : ((0 : Int) ≤ ((a 95).getD x1.toNatClampNeg 0).toInt) ∧ (((a 95).getD x1.toNatClampNeg 0).toInt ≤ 7) := hG.I.2.2.1 95 (x1.toNatClampNeg)
  have fi_6019 : ((0 : Int) ≤ (i 6019).toInt) ∧ ((i 6019).toInt ≤ 1000) := hG.I.1 6019
  refine ft_go mi_k13 2 4 [(0, .ref 94), (1, .int x1), (2, .int 4), (3, .int 1), (4, .int x4), (5, .int x5)] [.int 40, .int x5] i a q r (by rfl) ?_
  refine ft_if mi_k13 (decide (x5 < 40)) 9 7 [(0, .ref 94), (1, .int x1), (2, .int 4), (3, .int 1), (4, .int x4), (5, .int x5)] [] (by rfl) (fun c => ?_) (fun c => ?_)
  ·
    have c2 : x5.toInt < (40 : Int32).toInt := kd_lt c; clear c
    refine ft_go mi_k13 2 11 [(0, .ref 94), (1, .int x1), (2, .int 4), (3, .int 1), (4, .int x4), (5, .int x5)] [.int 1, .int 4] i a q r (by rfl) ?_
    refine ko_callPI mi_k13.1 (pc := 11) (ls := [(0, .ref 94), (1, .int x1), (2, .int 4), (3, .int 1), (4, .int x4), (5, .int x5)]) (st := [.int 1, .int 4]) (h := ks i a q r) (i := (.invokestatic 39, 3, 11, 0, 9, 0, 298)) (mi_k13.2 _ _ (by rfl)) (ft_invS mi_pq11 (by rfl)) (cy := mi_c11) mi_pq11 rfl (kc11_l04_l11 hG.I hG.R ) (by decide) ?_
    intro vg3 hg3
    have z4 : vg3.toInt = 0 := hg3
    have evvg3 := kj_eq (or37 z4) (by decide : (0 : Int32).toInt = 0)
    subst evvg3
    refine ft_go mi_k13 5 23 [(6, .int 0), (0, .ref 94), (1, .int x1), (2, .int 4), (3, .int 1), (4, .int x4), (5, .int x5)] [.int (0 * 4), .ref (mi_RO + 3)] i a q r (by rfl) ?_
    refine ko_eq (x1 := (23, [(6, .int 0), (0, .ref 94), (1, .int x1), (2, .int 4), (3, .int 1), (4, .int x4), (5, .int x5)], [.int 0, .ref (mi_RO + 3)], (0, 0), ks i a q r)) (by rw [(by decide : (0 * 4 : Int32) = 0)]) ?_
    refine ft_go mi_k13 2 25 [(6, .int 0), (0, .ref 94), (1, .int x1), (2, .int 4), (3, .int 1), (4, .int x4), (5, .int x5)] [.int (0 + 1), .ref (mi_RO + 3)] i a q r (by rfl) ?_
    refine ko_eq (x1 := (25, [(6, .int 0), (0, .ref 94), (1, .int x1), (2, .int 4), (3, .int 1), (4, .int x4), (5, .int x5)], [.int 1, .ref (mi_RO + 3)], (0, 0), ks i a q r)) (by rw [(by decide : (0 + 1 : Int32) = 1)]) ?_
    refine ko_iaro2 mi_k13.1 (l := [1, 10, 11, 2, 20, 0, 0, 0, 0, 30, 0, 0, 0, 41, 40, 0, 0, 0, 50, 0, 0, 0, 0, 60, 70, 0, 0, 0, 0, 80, 0, 81]) (n := 32) (c := 32) (ax := (0, 0, 0, 0, 0)) (mi_k13.2 _ _ (by rfl)) (by rfl) (by rfl) rfl rfl (or140 kor1) (or141 kor1) ?_
    have r5 : ((0 : Int) ≤ (([1, 10, 11, 2, 20, 0, 0, 0, 0, 30, 0, 0, 0, 41, 40, 0, 0, 0, 50, 0, 0, 0, 0, 60, 70, 0, 0, 0, 0, 80, 0, 81] : List Int32).getD (1 : Int32).toNatClampNeg 0).toInt) ∧ ((([1, 10, 11, 2, 20, 0, 0, 0, 0, 30, 0, 0, 0, 41, 40, 0, 0, 0, 50, 0, 0, 0, 0, 60, 70, 0, 0, 0, 0, 80, 0, 81] : List Int32).getD (1 : Int32).toNatClampNeg 0).toInt ≤ 81) := kro_rng (lo := 0) (hi := 81) (by decide) ((1 : Int32).toNatClampNeg)
    refine ko_eq (x1 := (26, [(6, .int 0), (0, .ref 94), (1, .int x1), (2, .int 4), (3, .int 1), (4, .int x4), (5, .int x5)], [.int 10], (0, 0), ks i a q r)) (by rw [(by decide : (([1, 10, 11, 2, 20, 0, 0, 0, 0, 30, 0, 0, 0, 41, 40, 0, 0, 0, 50, 0, 0, 0, 0, 60, 70, 0, 0, 0, 0, 80, 0, 81] : List Int32).getD (1 : Int32).toNatClampNeg 0) = 10)]) ?_
    refine ft_go mi_k13 4 34 [(7, .int 10), (6, .int 0), (0, .ref 94), (1, .int x1), (2, .int 4), (3, .int 1), (4, .int x4), (5, .int x5)] [.int 24, .int (i 6019)] i a q r (by rfl) ?_
    refine ft_if mi_k13 (decide (24 ≤ (i 6019))) 48 37 [(7, .int 10), (6, .int 0), (0, .ref 94), (1, .int x1), (2, .int 4), (3, .int 1), (4, .int x4), (5, .int x5)] [] (by rfl) (fun c => ?_) (fun c => ?_)
    ·
      have c6 : (24 : Int32).toInt ≤ (i 6019).toInt := kd_le c; clear c
      have s7 : ((i 6019) + 1).toInt = (i 6019).toInt + (1 : Int32).toInt := kd_add (or6 c6 kor24 kor1) (or7 fi_6019.2 kor1)
      have hJ8 := kG_i hG 6019 rfl (v := ((i 6019) + 1)) ⟨(or8 c6 s7 kor24 kor1), (or178 hp3.2 s7 kor1)⟩
      have s9 : (x5 + 1).toInt = x5.toInt + (1 : Int32).toInt := kd_add (or16 hp2.1 kor1) (or158 hp2.2 kor1)
      refine ft_go mi_k13 15 72 [(7, .int 10), (6, .int 0), (0, .ref 94), (1, .int x1), (2, .int 4), (3, .int 1), (4, .int x4), (5, .int x5)] [.int (x5 + 1), .int x4, .int 1, .int x1, .ref 94] (ku i 6019 ((i 6019) + 1)) a q r (by rfl) ?_
      refine ko_callI mi_k13.1 (pc := 72) (ls := [(7, .int 10), (6, .int 0), (0, .ref 94), (1, .int x1), (2, .int 4), (3, .int 1), (4, .int x4), (5, .int x5)]) (st := [.int (x5 + 1), .int x4, .int 1, .int x1, .ref 94]) (h := ks (ku i 6019 ((i 6019) + 1)) a q r) (i := (.invokevirtual 43, 3, 14, 0, 9, 0, 301)) (mi_k13.2 _ _ (by rfl)) (ft_invS mi_pq14 (by rfl)) (cy := mi_c14) mi_pq14 rfl (ke14_94_l11_K4 hJ8.I hJ8.R x1 x4 (x5 + 1) (or25 hp0.1 hp0.2) (or71 hp1) (or164 hp2.1 hp2.2 s9 kor1) (or179 c6 hp3.2 s7 kor24 kor1)) (by decide) ?_
      intro vg10 ig10 ag10 qg10 rg10 kg10 hg10
      have hGg10 := kG_call hJ8 kg10 (by decide +kernel)
      obtain ⟨hg10, og10⟩ := hg10
      have fig10_6019 : ((0 : Int) ≤ (ig10 6019).toInt) ∧ ((ig10 6019).toInt ≤ 1000) := hGg10.I.1 6019
      have z11 : (ig10 6019).toInt = (((i 6019) + 1).toInt + 2) := hg10
      have q12 : vg10 = av0_1_4 x1 x4 := og10.1
      have t13 : trS (a 96) ((i 6019) + 1) (ag10 96) (ig10 6019) [20, 1] := og10.2
      exact ft_ret mi_k13 (by rfl) (hP vg10 _ _ _ _ hGg10 ⟨(or180 s7 z11 kor1), ⟨(show vg10 = av0_1_4 x1 x4 from congrArg (fun z0_ => z0_) q12), (tr_app (es := [10, 20, 1]) (show trS (a 96) (i 6019) (a 96) ((i 6019) + 1) [10] from tr_no (or11 c6 kor24) (or13 c6 kor24) rfl (or12 s7 kor1)) t13 (by rfl))⟩⟩)
    ·
      have c14 : (i 6019).toInt < (24 : Int32).toInt := kd_leF c; clear c
      refine ft_go mi_k13 5 47 [(7, .int 10), (6, .int 0), (0, .ref 94), (1, .int x1), (2, .int 4), (3, .int 1), (4, .int x4), (5, .int x5)] [.int 10, .int (i 6019), .ref 96] i a q r (by rfl) ?_
      refine ko_iast3 mi_k13.1 (n := 24) (c := 24) (ax := (0, 0, 0, 0, 0)) (mi_k13.2 _ _ (by rfl)) (by rfl) (ksG96 _ _ _ _) (ksA96 _ _ _ _) (hG.I.2.1 96) rfl (or14 fi_6019.1) (or15 c14 kor24) ?_
      intro a15 ea15 fa15
      have hJ15 := kG_a3 hG 96 rfl ea15 fa15 (kd_bd _)
      have s16 : ((i 6019) + 1).toInt = (i 6019).toInt + (1 : Int32).toInt := kd_add (or16 fi_6019.1 kor1) (or7 fi_6019.2 kor1)
      have hJ17 := kG_i hJ15 6019 rfl (v := ((i 6019) + 1)) ⟨(or17 fi_6019.1 s16 kor1), (or178 hp3.2 s16 kor1)⟩
      have s18 : (x5 + 1).toInt = x5.toInt + (1 : Int32).toInt := kd_add (or16 hp2.1 kor1) (or158 hp2.2 kor1)
      refine ft_go mi_k13 15 72 [(7, .int 10), (6, .int 0), (0, .ref 94), (1, .int x1), (2, .int 4), (3, .int 1), (4, .int x4), (5, .int x5)] [.int (x5 + 1), .int x4, .int 1, .int x1, .ref 94] (ku i 6019 ((i 6019) + 1)) a15 q r (by rfl) ?_
      have r19 : ((0 : Int) ≤ ((a15 95).getD x1.toNatClampNeg 0).toInt) ∧ (((a15 95).getD x1.toNatClampNeg 0).toInt ≤ 7) := hJ17.I.2.2.1 95 (x1.toNatClampNeg)
      have u20 : ((a15 95).getD x1.toNatClampNeg 0).toInt = ((a 95).getD x1.toNatClampNeg 0).toInt := congrArg (fun z : List Int32 => (z.getD x1.toNatClampNeg 0).toInt) (fa15 95 (by decide))
      refine ko_callI mi_k13.1 (pc := 72) (ls := [(7, .int 10), (6, .int 0), (0, .ref 94), (1, .int x1), (2, .int 4), (3, .int 1), (4, .int x4), (5, .int x5)]) (st := [.int (x5 + 1), .int x4, .int 1, .int x1, .ref 94]) (h := ks (ku i 6019 ((i 6019) + 1)) a15 q r) (i := (.invokevirtual 43, 3, 14, 0, 9, 0, 301)) (mi_k13.2 _ _ (by rfl)) (ft_invS mi_pq14 (by rfl)) (cy := mi_c14) mi_pq14 rfl (ke14_94_l11_K4 hJ17.I hJ17.R x1 x4 (x5 + 1) (or25 hp0.1 hp0.2) (or70 hp1 u20) (or164 hp2.1 hp2.2 s18 kor1) (or181 fi_6019.1 hp3.2 s16 kor1)) (by decide) ?_
      intro vg21 ig21 ag21 qg21 rg21 kg21 hg21
      have hGg21 := kG_call hJ17 kg21 (by decide +kernel)
      obtain ⟨hg21, og21⟩ := hg21
      have fig21_6019 : ((0 : Int) ≤ (ig21 6019).toInt) ∧ ((ig21 6019).toInt ≤ 1000) := hGg21.I.1 6019
      have z22 : (ig21 6019).toInt = (((i 6019) + 1).toInt + 2) := hg21
      have q23 : vg21 = av0_1_4 x1 x4 := og21.1
      have t24 : trS (a15 96) ((i 6019) + 1) (ag21 96) (ig21 6019) [20, 1] := og21.2
      exact ft_ret mi_k13 (by rfl) (hP vg21 _ _ _ _ hGg21 ⟨(or180 s16 z22 kor1), ⟨(show vg21 = av0_1_4 x1 x4 from congrArg (fun z0_ => z0_) q23), (tr_app (es := [10, 20, 1]) (show trS (a 96) (i 6019) (a15 96) ((i 6019) + 1) [10] from tr_st (or18 fi_6019.1) (or15 c14 kor24) (kset_o ea15 rfl) (or12 s16 kor1)) t24 (by rfl))⟩⟩)
  ·
    have c25 : (40 : Int32).toInt ≤ x5.toInt := kd_ltF c; clear c
    exact (or168 c25 hp2.2 kor40).elim
def yw14_94_l12_K4 : kW := ([], [], [], [])
set_option maxRecDepth 100000 in
theorem ke14_94_l12_K4 {i : Nat → Int32} {a : Nat → List Int32} {q : Nat → List Int64} {r : Nat → Nat} (hI : kI i a q) (hr : kr r) (x1 : Int32) (x3 : Int32) (x4 : Int32) (hp0 : ((0 : Int) ≤ x1.toInt) ∧ (x1.toInt ≤ 49)) (hp1 : ((a 95).getD x1.toNatClampNeg 0).toInt = 4) (hp2 : ((0 : Int) ≤ x4.toInt) ∧ ((x4.toInt + 0) ≤ 39)) (hp3 : ((0 : Int) ≤ (i 6019).toInt) ∧ (((i 6019).toInt + 0) ≤ 900)) : km 1 14 [.ref 94, .int x1, .int 2, .int x3, .int x4] (ks i a q r) (kVI yw14_94_l12_K4 i a q r (fun v i1 a1 q1 r1 => ((i1 6019).toInt = ((i 6019).toInt + 0)) ∧ (v = av0_2_4 x1 x3 ∧ trS (a 96) (i 6019) (a1 96) (i1 6019) []))) := by
  have hG := kG_self yw14_94_l12_K4 hI hr
  refine km_ofI (q := (mi_h14, mi_c14)) rfl (by decide) (Nat.le_of_ble_eq_true rfl) ?_
  intro P hP
  have r1 : ((0 : Int) ≤ ((a 95).getD x1.toNatClampNeg 0).toInt) ∧ (((a 95).getD x1.toNatClampNeg 0).toInt ≤ 7) := hG.I.2.2.1 95 (x1.toNatClampNeg)
  have fi_6019 : ((0 : Int) ≤ (i 6019).toInt) ∧ ((i 6019).toInt ≤ 1000) := hG.I.1 6019
  refine ft_go mi_k14 3 5 [(0, .ref 94), (1, .int x1), (2, .int 2), (3, .int x3), (4, .int x4)] [.int x1, .ref 95] i a q r (by rfl) ?_
  refine ko_iald3 mi_k14.1 (n := 50) (c := 50) (ax := (0, 0, 0, 0, 0)) (mi_k14.2 _ _ (by rfl)) (by rfl) (ksG95 _ _ _ _) (hG.I.2.1 95) rfl (or14 hp0.1) (or20 hp0.2) ?_
  refine ko_eq (x1 := (6, [(0, .ref 94), (1, .int x1), (2, .int 2), (3, .int x3), (4, .int x4)], [.int 4], (0, 0), ks i a q r)) (by rw [(kj_eq (or71 hp1) (by decide) : ((a 95).getD x1.toNatClampNeg 0) = 4)]) ?_
  refine ft_go mi_k14 6 57 [(5, .int 4), (0, .ref 94), (1, .int x1), (2, .int 2), (3, .int x3), (4, .int x4)] [.int (x3 ^^^ x1)] i a q r (by rfl) ?_
  exact ft_ret mi_k14 (by rfl) (hP (x3 ^^^ x1) _ _ _ _ hG ⟨or130, ⟨(show (x3 ^^^ x1) = av0_2_4 x1 x3 from rfl), tr_nil (or18 fi_6019.1)⟩⟩)
def yw13_94_l11_l22_K4 : kW := ([6019], [96], [], [])
set_option maxRecDepth 100000 in
theorem ke13_94_l11_l22_K4 {i : Nat → Int32} {a : Nat → List Int32} {q : Nat → List Int64} {r : Nat → Nat} (hI : kI i a q) (hr : kr r) (x1 : Int32) (x4 : Int32) (x5 : Int32) (hp0 : ((0 : Int) ≤ x1.toInt) ∧ (x1.toInt ≤ 49)) (hp1 : ((a 95).getD x1.toNatClampNeg 0).toInt = 4) (hp2 : ((0 : Int) ≤ x5.toInt) ∧ ((x5.toInt + 1) ≤ 39)) (hp3 : ((0 : Int) ≤ (i 6019).toInt) ∧ (((i 6019).toInt + 1) ≤ 900)) : km 3 13 [.ref 94, .int x1, .int 1, .int 2, .int x4, .int x5] (ks i a q r) (kVI yw13_94_l11_l22_K4 i a q r (fun v i1 a1 q1 r1 => ((i1 6019).toInt = ((i 6019).toInt + 1)) ∧ (v = av0_2_4 x1 x4 ∧ trS (a 96) (i 6019) (a1 96) (i1 6019) [11]))) := by
  have hG := kG_self yw13_94_l11_l22_K4 hI hr
  refine km_ofI (q := (mi_h13, mi_c13)) rfl (by decide) (Nat.le_of_ble_eq_true rfl) ?_
  intro P hP
  have r1 : ((0 : Int) ≤ ((a 95).getD x1.toNatClampNeg 0).toInt) ∧ (((a 95).getD x1.toNatClampNeg 0).toInt ≤ 7) := hG.I.2.2.1 95 (x1.toNatClampNeg)
  have fi_6019 : ((0 : Int) ≤ (i 6019).toInt) ∧ ((i 6019).toInt ≤ 1000) := hG.I.1 6019
  refine ft_go mi_k13 2 4 [(0, .ref 94), (1, .int x1), (2, .int 1), (3, .int 2), (4, .int x4), (5, .int x5)] [.int 40, .int x5] i a q r (by rfl) ?_
  refine ft_if mi_k13 (decide (x5 < 40)) 9 7 [(0, .ref 94), (1, .int x1), (2, .int 1), (3, .int 2), (4, .int x4), (5, .int x5)] [] (by rfl) (fun c => ?_) (fun c => ?_)
  ·
    have c2 : x5.toInt < (40 : Int32).toInt := kd_lt c; clear c
    refine ft_go mi_k13 2 11 [(0, .ref 94), (1, .int x1), (2, .int 1), (3, .int 2), (4, .int x4), (5, .int x5)] [.int 2, .int 1] i a q r (by rfl) ?_
    refine ko_callPI mi_k13.1 (pc := 11) (ls := [(0, .ref 94), (1, .int x1), (2, .int 1), (3, .int 2), (4, .int x4), (5, .int x5)]) (st := [.int 2, .int 1]) (h := ks i a q r) (i := (.invokestatic 39, 3, 11, 0, 9, 0, 298)) (mi_k13.2 _ _ (by rfl)) (ft_invS mi_pq11 (by rfl)) (cy := mi_c11) mi_pq11 rfl (kc11_l01_l12 hG.I hG.R ) (by decide) ?_
    intro vg3 hg3
    have z4 : vg3.toInt = 0 := hg3
    have evvg3 := kj_eq (or37 z4) (by decide : (0 : Int32).toInt = 0)
    subst evvg3
    refine ft_go mi_k13 5 23 [(6, .int 0), (0, .ref 94), (1, .int x1), (2, .int 1), (3, .int 2), (4, .int x4), (5, .int x5)] [.int (0 * 4), .ref (mi_RO + 3)] i a q r (by rfl) ?_
    refine ko_eq (x1 := (23, [(6, .int 0), (0, .ref 94), (1, .int x1), (2, .int 1), (3, .int 2), (4, .int x4), (5, .int x5)], [.int 0, .ref (mi_RO + 3)], (0, 0), ks i a q r)) (by rw [(by decide : (0 * 4 : Int32) = 0)]) ?_
    refine ft_go mi_k13 2 25 [(6, .int 0), (0, .ref 94), (1, .int x1), (2, .int 1), (3, .int 2), (4, .int x4), (5, .int x5)] [.int (0 + 2), .ref (mi_RO + 3)] i a q r (by rfl) ?_
    refine ko_eq (x1 := (25, [(6, .int 0), (0, .ref 94), (1, .int x1), (2, .int 1), (3, .int 2), (4, .int x4), (5, .int x5)], [.int 2, .ref (mi_RO + 3)], (0, 0), ks i a q r)) (by rw [(by decide : (0 + 2 : Int32) = 2)]) ?_
    refine ko_iaro2 mi_k13.1 (l := [1, 10, 11, 2, 20, 0, 0, 0, 0, 30, 0, 0, 0, 41, 40, 0, 0, 0, 50, 0, 0, 0, 0, 60, 70, 0, 0, 0, 0, 80, 0, 81]) (n := 32) (c := 32) (ax := (0, 0, 0, 0, 0)) (mi_k13.2 _ _ (by rfl)) (by rfl) (by rfl) rfl rfl (or152 kor2) (or153 kor2) ?_
    have r5 : ((0 : Int) ≤ (([1, 10, 11, 2, 20, 0, 0, 0, 0, 30, 0, 0, 0, 41, 40, 0, 0, 0, 50, 0, 0, 0, 0, 60, 70, 0, 0, 0, 0, 80, 0, 81] : List Int32).getD (2 : Int32).toNatClampNeg 0).toInt) ∧ ((([1, 10, 11, 2, 20, 0, 0, 0, 0, 30, 0, 0, 0, 41, 40, 0, 0, 0, 50, 0, 0, 0, 0, 60, 70, 0, 0, 0, 0, 80, 0, 81] : List Int32).getD (2 : Int32).toNatClampNeg 0).toInt ≤ 81) := kro_rng (lo := 0) (hi := 81) (by decide) ((2 : Int32).toNatClampNeg)
    refine ko_eq (x1 := (26, [(6, .int 0), (0, .ref 94), (1, .int x1), (2, .int 1), (3, .int 2), (4, .int x4), (5, .int x5)], [.int 11], (0, 0), ks i a q r)) (by rw [(by decide : (([1, 10, 11, 2, 20, 0, 0, 0, 0, 30, 0, 0, 0, 41, 40, 0, 0, 0, 50, 0, 0, 0, 0, 60, 70, 0, 0, 0, 0, 80, 0, 81] : List Int32).getD (2 : Int32).toNatClampNeg 0) = 11)]) ?_
    refine ft_go mi_k13 4 34 [(7, .int 11), (6, .int 0), (0, .ref 94), (1, .int x1), (2, .int 1), (3, .int 2), (4, .int x4), (5, .int x5)] [.int 24, .int (i 6019)] i a q r (by rfl) ?_
    refine ft_if mi_k13 (decide (24 ≤ (i 6019))) 48 37 [(7, .int 11), (6, .int 0), (0, .ref 94), (1, .int x1), (2, .int 1), (3, .int 2), (4, .int x4), (5, .int x5)] [] (by rfl) (fun c => ?_) (fun c => ?_)
    ·
      have c6 : (24 : Int32).toInt ≤ (i 6019).toInt := kd_le c; clear c
      have s7 : ((i 6019) + 1).toInt = (i 6019).toInt + (1 : Int32).toInt := kd_add (or6 c6 kor24 kor1) (or7 fi_6019.2 kor1)
      have hJ8 := kG_i hG 6019 rfl (v := ((i 6019) + 1)) ⟨(or8 c6 s7 kor24 kor1), (or127 hp3.2 s7 kor1)⟩
      have s9 : (x5 + 1).toInt = x5.toInt + (1 : Int32).toInt := kd_add (or16 hp2.1 kor1) (or128 hp2.2 kor1)
      refine ft_go mi_k13 15 72 [(7, .int 11), (6, .int 0), (0, .ref 94), (1, .int x1), (2, .int 1), (3, .int 2), (4, .int x4), (5, .int x5)] [.int (x5 + 1), .int x4, .int 2, .int x1, .ref 94] (ku i 6019 ((i 6019) + 1)) a q r (by rfl) ?_
      refine ko_callI mi_k13.1 (pc := 72) (ls := [(7, .int 11), (6, .int 0), (0, .ref 94), (1, .int x1), (2, .int 1), (3, .int 2), (4, .int x4), (5, .int x5)]) (st := [.int (x5 + 1), .int x4, .int 2, .int x1, .ref 94]) (h := ks (ku i 6019 ((i 6019) + 1)) a q r) (i := (.invokevirtual 43, 3, 14, 0, 9, 0, 301)) (mi_k13.2 _ _ (by rfl)) (ft_invS mi_pq14 (by rfl)) (cy := mi_c14) mi_pq14 rfl (ke14_94_l12_K4 hJ8.I hJ8.R x1 x4 (x5 + 1) (or25 hp0.1 hp0.2) (or71 hp1) (or131 hp2.1 hp2.2 s9 kor1) (or132 c6 hp3.2 s7 kor24 kor1)) (by decide) ?_
      intro vg10 ig10 ag10 qg10 rg10 kg10 hg10
      have hGg10 := kG_call hJ8 kg10 (by decide +kernel)
      obtain ⟨hg10, og10⟩ := hg10
      have fig10_6019 : ((0 : Int) ≤ (ig10 6019).toInt) ∧ ((ig10 6019).toInt ≤ 1000) := hGg10.I.1 6019
      have efig10_6019 : (ig10 6019).toInt = ((i 6019) + 1).toInt := kg10.ti 6019 rfl
      have z11 : (ig10 6019).toInt = (((i 6019) + 1).toInt + 0) := hg10
      have q12 : vg10 = av0_2_4 x1 x4 := og10.1
      have t13 : trS (a 96) ((i 6019) + 1) (ag10 96) (ig10 6019) [] := og10.2
      exact ft_ret mi_k13 (by rfl) (hP vg10 _ _ _ _ hGg10 ⟨(or133 efig10_6019 s7 kor1), ⟨(show vg10 = av0_2_4 x1 x4 from congrArg (fun z0_ => z0_) q12), (tr_app (es := [11]) (show trS (a 96) (i 6019) (a 96) ((i 6019) + 1) [11] from tr_no (or11 c6 kor24) (or13 c6 kor24) rfl (or12 s7 kor1)) t13 (by rfl))⟩⟩)
    ·
      have c14 : (i 6019).toInt < (24 : Int32).toInt := kd_leF c; clear c
      refine ft_go mi_k13 5 47 [(7, .int 11), (6, .int 0), (0, .ref 94), (1, .int x1), (2, .int 1), (3, .int 2), (4, .int x4), (5, .int x5)] [.int 11, .int (i 6019), .ref 96] i a q r (by rfl) ?_
      refine ko_iast3 mi_k13.1 (n := 24) (c := 24) (ax := (0, 0, 0, 0, 0)) (mi_k13.2 _ _ (by rfl)) (by rfl) (ksG96 _ _ _ _) (ksA96 _ _ _ _) (hG.I.2.1 96) rfl (or14 fi_6019.1) (or15 c14 kor24) ?_
      intro a15 ea15 fa15
      have hJ15 := kG_a3 hG 96 rfl ea15 fa15 (kd_bd _)
      have s16 : ((i 6019) + 1).toInt = (i 6019).toInt + (1 : Int32).toInt := kd_add (or16 fi_6019.1 kor1) (or7 fi_6019.2 kor1)
      have hJ17 := kG_i hJ15 6019 rfl (v := ((i 6019) + 1)) ⟨(or17 fi_6019.1 s16 kor1), (or127 hp3.2 s16 kor1)⟩
      have s18 : (x5 + 1).toInt = x5.toInt + (1 : Int32).toInt := kd_add (or16 hp2.1 kor1) (or128 hp2.2 kor1)
      refine ft_go mi_k13 15 72 [(7, .int 11), (6, .int 0), (0, .ref 94), (1, .int x1), (2, .int 1), (3, .int 2), (4, .int x4), (5, .int x5)] [.int (x5 + 1), .int x4, .int 2, .int x1, .ref 94] (ku i 6019 ((i 6019) + 1)) a15 q r (by rfl) ?_
      have r19 : ((0 : Int) ≤ ((a15 95).getD x1.toNatClampNeg 0).toInt) ∧ (((a15 95).getD x1.toNatClampNeg 0).toInt ≤ 7) := hJ17.I.2.2.1 95 (x1.toNatClampNeg)
      have u20 : ((a15 95).getD x1.toNatClampNeg 0).toInt = ((a 95).getD x1.toNatClampNeg 0).toInt := congrArg (fun z : List Int32 => (z.getD x1.toNatClampNeg 0).toInt) (fa15 95 (by decide))
      refine ko_callI mi_k13.1 (pc := 72) (ls := [(7, .int 11), (6, .int 0), (0, .ref 94), (1, .int x1), (2, .int 1), (3, .int 2), (4, .int x4), (5, .int x5)]) (st := [.int (x5 + 1), .int x4, .int 2, .int x1, .ref 94]) (h := ks (ku i 6019 ((i 6019) + 1)) a15 q r) (i := (.invokevirtual 43, 3, 14, 0, 9, 0, 301)) (mi_k13.2 _ _ (by rfl)) (ft_invS mi_pq14 (by rfl)) (cy := mi_c14) mi_pq14 rfl (ke14_94_l12_K4 hJ17.I hJ17.R x1 x4 (x5 + 1) (or25 hp0.1 hp0.2) (or70 hp1 u20) (or131 hp2.1 hp2.2 s18 kor1) (or134 fi_6019.1 hp3.2 s16 kor1)) (by decide) ?_
      intro vg21 ig21 ag21 qg21 rg21 kg21 hg21
      have hGg21 := kG_call hJ17 kg21 (by decide +kernel)
      obtain ⟨hg21, og21⟩ := hg21
      have fig21_6019 : ((0 : Int) ≤ (ig21 6019).toInt) ∧ ((ig21 6019).toInt ≤ 1000) := hGg21.I.1 6019
      have efig21_6019 : (ig21 6019).toInt = ((i 6019) + 1).toInt := kg21.ti 6019 rfl
      have z22 : (ig21 6019).toInt = (((i 6019) + 1).toInt + 0) := hg21
      have q23 : vg21 = av0_2_4 x1 x4 := og21.1
      have t24 : trS (a15 96) ((i 6019) + 1) (ag21 96) (ig21 6019) [] := og21.2
      exact ft_ret mi_k13 (by rfl) (hP vg21 _ _ _ _ hGg21 ⟨(or133 efig21_6019 s16 kor1), ⟨(show vg21 = av0_2_4 x1 x4 from congrArg (fun z0_ => z0_) q23), (tr_app (es := [11]) (show trS (a 96) (i 6019) (a15 96) ((i 6019) + 1) [11] from tr_st (or18 fi_6019.1) (or15 c14 kor24) (kset_o ea15 rfl) (or12 s16 kor1)) t24 (by rfl))⟩⟩)
  ·
    have c25 : (40 : Int32).toInt ≤ x5.toInt := kd_ltF c; clear c
    exact (or135 c25 hp2.2 kor40).elim
def yw13_94_l14_l22_K4 : kW := ([6019], [96], [], [])
