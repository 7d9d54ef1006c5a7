set_option maxRecDepth 100000 in
theorem ke212_116_l10_K4 {i : Nat → Int32} {a : Nat → List Int32} {q : Nat → List Int64} {r : Nat → Nat} (hI : kI i a q) (hr : kr r) (x1 : Int32) (x3 : Int32) (hp0 : ((0 : Int) ≤ x1.toInt) ∧ (x1.toInt ≤ 49)) (hp1 : ((a 134).getD x1.toNatClampNeg 0).toInt = 4) (hp2 : ((0 : Int) ≤ (i 7457).toInt) ∧ (((i 7457).toInt + 1) ≤ 900)) : km 3 212 [.ref 116, .int x1, .int 0, .int x3] (ks i a q r) (kVI yw212_116_l10_K4 i a q r (fun v i1 a1 q1 r1 => ((i1 7457).toInt = ((i 7457).toInt + 1)) ∧ (v = av0_2_4 x1 x3 ∧ trS (a 135) (i 7457) (a1 135) (i1 7457) [11]))) := by
  have hG := kG_self yw212_116_l10_K4 hI hr
  refine km_ofI (q := (mi_h212, mi_c212)) rfl (by decide) (Nat.le_of_ble_eq_true rfl) ?_
  intro P hP
  have r1 : ((0 : Int) ≤ ((a 134).getD x1.toNatClampNeg 0).toInt) ∧ (((a 134).getD x1.toNatClampNeg 0).toInt ≤ 7) := hG.I.2.2.1 134 (x1.toNatClampNeg)
  have fi_7457 : ((0 : Int) ≤ (i 7457).toInt) ∧ ((i 7457).toInt ≤ 1000) := hG.I.1 7457
  refine ft_go mi_k212 4 39 [(0, .ref 116), (1, .int x1), (2, .int 0), (3, .int x3)] [.int 11, .ref 116] i a q r (by rfl) ?_
  refine ko_callN mi_k212.1 (pc := 39) (ls := [(0, .ref 116), (1, .int x1), (2, .int 0), (3, .int x3)]) (st := [.int 11, .ref 116]) (h := ks i a q r) (i := (.invokevirtual 351, 3, 209, 0, 9, 0, 464)) (mi_k212.2 _ _ (by rfl)) (ft_invS mi_pq209 (by rfl)) (cy := mi_c209) mi_pq209 rfl (ke209_116 hG.I hG.R 11 (or23 fi_7457.1 hp2.2)) (by decide) ?_
  intro ig2 ag2 qg2 rg2 kg2 hg2
  have hGg2 := kG_call hG kg2 (by decide +kernel)
  obtain ⟨hg2, og2⟩ := hg2
  have fig2_7457 : ((0 : Int) ≤ (ig2 7457).toInt) ∧ ((ig2 7457).toInt ≤ 1000) := hGg2.I.1 7457
  have z3 : (ig2 7457).toInt = ((i 7457).toInt + 1) := hg2
  have t4 : trS (a 135) (i 7457) (ag2 135) (ig2 7457) [11] := og2
  refine ft_go mi_k212 3 45 [(0, .ref 116), (1, .int x1), (2, .int 0), (3, .int x3)] [.int (x3 ^^^ x1)] ig2 ag2 qg2 rg2 (by rfl) ?_
  exact ft_ret mi_k212 (by rfl) (hP (x3 ^^^ x1) _ _ _ _ hGg2 ⟨(or24 z3), ⟨(show (x3 ^^^ x1) = av0_2_4 x1 x3 from rfl), t4⟩⟩)
def yw212_116_l11_K4 : kW := ([7457], [135], [], [])
set_option maxRecDepth 100000 in
theorem ke212_116_l11_K4 {i : Nat → Int32} {a : Nat → List Int32} {q : Nat → List Int64} {r : Nat → Nat} (hI : kI i a q) (hr : kr r) (x1 : Int32) (x3 : Int32) (hp0 : ((0 : Int) ≤ x1.toInt) ∧ (x1.toInt ≤ 49)) (hp1 : ((a 134).getD x1.toNatClampNeg 0).toInt = 4) (hp2 : ((0 : Int) ≤ (i 7457).toInt) ∧ (((i 7457).toInt + 1) ≤ 900)) : km 5 212 [.ref 116, .int x1, .int 1, .int x3] (ks i a q r) (kVI yw212_116_l11_K4 i a q r (fun v i1 a1 q1 r1 => ((i1 7457).toInt = ((i 7457).toInt + 1)) ∧ (v = av0_2_4 x1 x3 ∧ trS (a 135) (i 7457) (a1 135) (i1 7457) [11]))) := by
  have hG := kG_self yw212_116_l11_K4 hI hr
  refine km_ofI (q := (mi_h212, mi_c212)) rfl (by decide) (Nat.le_of_ble_eq_true rfl) ?_
  intro P hP
  have r1 : ((0 : Int) ≤ ((a 134).getD x1.toNatClampNeg 0).toInt) ∧ (((a 134).getD x1.toNatClampNeg 0).toInt ≤ 7) := hG.I.2.2.1 134 (x1.toNatClampNeg)
  have fi_7457 : ((0 : Int) ≤ (i 7457).toInt) ∧ ((i 7457).toInt ≤ 1000) := hG.I.1 7457
  refine ft_go mi_k212 5 96 [(0, .ref 116), (1, .int x1), (2, .int 1), (3, .int x3)] [.int 1, .int x1, .ref 116] i a q r (by rfl) ?_
  refine ko_callPI mi_k212.1 (pc := 96) (ls := [(0, .ref 116), (1, .int x1), (2, .int 1), (3, .int x3)]) (st := [.int 1, .int x1, .ref 116]) (h := ks i a q r) (i := (.invokestatic 357, 3, 208, 0, 9, 0, 465)) (mi_k212.2 _ _ (by rfl)) (ft_invS mi_pq208 (by rfl)) (cy := mi_c208) mi_pq208 rfl (kc208_l01 hG.I hG.R ) (by decide) ?_
  intro vg2 hg2
  have z3 : vg2.toInt = 0 := hg2
  have evvg2 := kj_eq (or37 z3) (by decide : (0 : Int32).toInt = 0)
  subst evvg2
  refine ft_go mi_k212 1 100 [(0, .ref 116), (1, .int x1), (2, .int 1), (3, .int x3)] [.int x3, .int 0, .int x1, .ref 116] i a q r (by rfl) ?_
  refine ko_callI mi_k212.1 (pc := 100) (ls := [(0, .ref 116), (1, .int x1), (2, .int 1), (3, .int x3)]) (st := [.int x3, .int 0, .int x1, .ref 116]) (h := ks i a q r) (i := (.invokevirtual 363, 3, 212, 0, 9, 0, 467)) (mi_k212.2 _ _ (by rfl)) (ft_invS mi_pq212 (by rfl)) (cy := mi_c212) mi_pq212 rfl (ke212_116_l10_K4 hG.I hG.R x1 x3 (or25 hp0.1 hp0.2) (or71 hp1) (or48 fi_7457.1 hp2.2)) (by decide) ?_
  intro vg4 ig4 ag4 qg4 rg4 kg4 hg4
  have hGg4 := kG_call hG kg4 (by decide +kernel)
  obtain ⟨hg4, og4⟩ := hg4
  have fig4_7457 : ((0 : Int) ≤ (ig4 7457).toInt) ∧ ((ig4 7457).toInt ≤ 1000) := hGg4.I.1 7457
  have z5 : (ig4 7457).toInt = ((i 7457).toInt + 1) := hg4
  have q6 : vg4 = av0_2_4 x1 x3 := og4.1
  have t7 : trS (a 135) (i 7457) (ag4 135) (ig4 7457) [11] := og4.2
  exact ft_ret mi_k212 (by rfl) (hP vg4 _ _ _ _ hGg4 ⟨(or24 z5), ⟨(show vg4 = av0_2_4 x1 x3 from congrArg (fun z0_ => z0_) q6), t7⟩⟩)
def yw212_116_l14_K4 : kW := ([7457], [135], [], [])
set_option maxRecDepth 100000 in
theorem ke212_116_l14_K4 {i : Nat → Int32} {a : Nat → List Int32} {q : Nat → List Int64} {r : Nat → Nat} (hI : kI i a q) (hr : kr r) (x1 : Int32) (x3 : Int32) (hp0 : ((0 : Int) ≤ x1.toInt) ∧ (x1.toInt ≤ 49)) (hp1 : ((a 134).getD x1.toNatClampNeg 0).toInt = 4) (hp2 : ((0 : Int) ≤ (i 7457).toInt) ∧ (((i 7457).toInt + 4) ≤ 900)) : km 9 212 [.ref 116, .int x1, .int 4, .int x3] (ks i a q r) (kVI yw212_116_l14_K4 i a q r (fun v i1 a1 q1 r1 => ((i1 7457).toInt = ((i 7457).toInt + 4)) ∧ (v = av4_2_4 x1 x3 ∧ trS (a 135) (i 7457) (a1 135) (i1 7457) [50, 11, 20, 1]))) := by
  have hG := kG_self yw212_116_l14_K4 hI hr
  refine km_ofI (q := (mi_h212, mi_c212)) rfl (by decide) (Nat.le_of_ble_eq_true rfl) ?_
  intro P hP
  have r1 : ((0 : Int) ≤ ((a 134).getD x1.toNatClampNeg 0).toInt) ∧ (((a 134).getD x1.toNatClampNeg 0).toInt ≤ 7) := hG.I.2.2.1 134 (x1.toNatClampNeg)
  have fi_7457 : ((0 : Int) ≤ (i 7457).toInt) ∧ ((i 7457).toInt ≤ 1000) := hG.I.1 7457
  refine ft_go mi_k212 4 65 [(0, .ref 116), (1, .int x1), (2, .int 4), (3, .int x3)] [.int 50, .ref 116] i a q r (by rfl) ?_
  refine ko_callN mi_k212.1 (pc := 65) (ls := [(0, .ref 116), (1, .int x1), (2, .int 4), (3, .int x3)]) (st := [.int 50, .ref 116]) (h := ks i a q r) (i := (.invokevirtual 351, 3, 209, 0, 9, 0, 464)) (mi_k212.2 _ _ (by rfl)) (ft_invS mi_pq209 (by rfl)) (cy := mi_c209) mi_pq209 rfl (ke209_116 hG.I hG.R 50 (or19 fi_7457.1 hp2.2)) (by decide) ?_
  intro ig2 ag2 qg2 rg2 kg2 hg2
  have hGg2 := kG_call hG kg2 (by decide +kernel)
  obtain ⟨hg2, og2⟩ := hg2
  have fig2_7457 : ((0 : Int) ≤ (ig2 7457).toInt) ∧ ((ig2 7457).toInt ≤ 1000) := hGg2.I.1 7457
  have z3 : (ig2 7457).toInt = ((i 7457).toInt + 1) := hg2
  have t4 : trS (a 135) (i 7457) (ag2 135) (ig2 7457) [50] := og2
  refine ft_go mi_k212 4 72 [(0, .ref 116), (1, .int x1), (2, .int 4), (3, .int x3)] [.int x3, .int 1, .int x1, .ref 116] ig2 ag2 qg2 rg2 (by rfl) ?_
  have r5 : ((0 : Int) ≤ ((ag2 134).getD x1.toNatClampNeg 0).toInt) ∧ (((ag2 134).getD x1.toNatClampNeg 0).toInt ≤ 7) := hGg2.I.2.2.1 134 (x1.toNatClampNeg)
  have u6 : ((ag2 134).getD x1.toNatClampNeg 0).toInt = ((a 134).getD x1.toNatClampNeg 0).toInt := congrArg (fun z : List Int32 => (z.getD x1.toNatClampNeg 0).toInt) (kg2.fa 134 rfl)
  refine ko_callI mi_k212.1 (pc := 72) (ls := [(0, .ref 116), (1, .int x1), (2, .int 4), (3, .int x3)]) (st := [.int x3, .int 1, .int x1, .ref 116]) (h := ks ig2 ag2 qg2 rg2) (i := (.invokevirtual 363, 3, 212, 0, 9, 0, 467)) (mi_k212.2 _ _ (by rfl)) (ft_invS mi_pq212 (by rfl)) (cy := mi_c212) mi_pq212 rfl (ke212_116_l11_K4 hGg2.I hGg2.R x1 x3 (or25 hp0.1 hp0.2) (or70 hp1 u6) (or76 fig2_7457.1 hp2.2 z3)) (by decide) ?_
  intro vg7 ig7 ag7 qg7 rg7 kg7 hg7
  have hGg7 := kG_call hGg2 kg7 (by decide +kernel)
  obtain ⟨hg7, og7⟩ := hg7
  have fig7_7457 : ((0 : Int) ≤ (ig7 7457).toInt) ∧ ((ig7 7457).toInt ≤ 1000) := hGg7.I.1 7457
  have z8 : (ig7 7457).toInt = ((ig2 7457).toInt + 1) := hg7
  have q9 : vg7 = av0_2_4 x1 x3 := og7.1
  have t10 : trS (ag2 135) (ig2 7457) (ag7 135) (ig7 7457) [11] := og7.2
  refine ft_go mi_k212 7 86 [(4, .int vg7), (0, .ref 116), (1, .int x1), (2, .int 4), (3, .int x3)] [.int x1, .ref 134, .int x1, .ref 116, .int vg7] ig7 ag7 qg7 rg7 (by rfl) ?_
  refine ko_iald3 mi_k212.1 (n := 50) (c := 50) (ax := (0, 0, 0, 0, 0)) (mi_k212.2 _ _ (by rfl)) (by rfl) (ksG134 _ _ _ _) (hGg7.I.2.1 134) rfl (or14 hp0.1) (or20 hp0.2) ?_
  have r11 : ((0 : Int) ≤ ((ag7 134).getD x1.toNatClampNeg 0).toInt) ∧ (((ag7 134).getD x1.toNatClampNeg 0).toInt ≤ 7) := hGg7.I.2.2.1 134 (x1.toNatClampNeg)
  have u12 : ((ag7 134).getD x1.toNatClampNeg 0).toInt = ((ag2 134).getD x1.toNatClampNeg 0).toInt := congrArg (fun z : List Int32 => (z.getD x1.toNatClampNeg 0).toInt) (kg7.fa 134 rfl)
  refine ko_eq (x1 := (87, [(4, .int vg7), (0, .ref 116), (1, .int x1), (2, .int 4), (3, .int x3)], [.int 4, .int x1, .ref 116, .int vg7], (0, 0), ks ig7 ag7 qg7 rg7)) (by rw [(kj_eq (or75 hp1 u12 u6) (by decide) : ((ag7 134).getD x1.toNatClampNeg 0) = 4)]) ?_
  refine ft_go mi_k212 1 88 [(4, .int vg7), (0, .ref 116), (1, .int x1), (2, .int 4), (3, .int x3)] [.int 2, .int 4, .int x1, .ref 116, .int vg7] ig7 ag7 qg7 rg7 (by rfl) ?_
  refine ko_callI mi_k212.1 (pc := 88) (ls := [(4, .int vg7), (0, .ref 116), (1, .int x1), (2, .int 4), (3, .int x3)]) (st := [.int 2, .int 4, .int x1, .ref 116, .int vg7]) (h := ks ig7 ag7 qg7 rg7) (i := (.invokevirtual 354, 3, 210, 0, 9, 0, 463)) (mi_k212.2 _ _ (by rfl)) (ft_invS mi_pq210 (by rfl)) (cy := mi_c210) mi_pq210 rfl (ke210_116_l14_K4 hGg7.I hGg7.R x1 2 (or25 hp0.1 hp0.2) (or75 hp1 u12 u6) (or77 fig7_7457.1 hp2.2 z3 z8)) (by decide) ?_
  intro vg13 ig13 ag13 qg13 rg13 kg13 hg13
  have hGg13 := kG_call hGg7 kg13 (by decide +kernel)
  obtain ⟨hg13, og13⟩ := hg13
  have fig13_7457 : ((0 : Int) ≤ (ig13 7457).toInt) ∧ ((ig13 7457).toInt ≤ 1000) := hGg13.I.1 7457
  have z14 : (ig13 7457).toInt = ((ig7 7457).toInt + 2) := hg13
  have q15 : vg13 = av1_0_4 x1 (2 : Int32) := og13.1
  have t16 : trS (ag7 135) (ig7 7457) (ag13 135) (ig13 7457) [20, 1] := og13.2
  have b17 : ((-2147483648 : Int) ≤ vg7.toInt) ∧ (vg7.toInt ≤ 2147483647) := kd_bd vg7
  have b18 : ((-2147483648 : Int) ≤ vg13.toInt) ∧ (vg13.toInt ≤ 2147483647) := kd_bd vg13
  refine ft_go mi_k212 1 92 [(4, .int vg7), (0, .ref 116), (1, .int x1), (2, .int 4), (3, .int x3)] [.int (vg7 - vg13)] ig13 ag13 qg13 rg13 (by rfl) ?_
  exact ft_ret mi_k212 (by rfl) (hP (vg7 - vg13) _ _ _ _ hGg13 ⟨(or78 z14 z3 z8), ⟨(show (vg7 - vg13) = av4_2_4 x1 x3 from by rw [q9, q15]; rfl), (tr_app (es := [50, 11, 20, 1]) (tr_app (es := [50, 11]) t4 t10 (by rfl)) t16 (by rfl))⟩⟩)
def yw213_116_l10_K4 : kW := ([7457], [135], [], [])
set_option maxRecDepth 100000 in
theorem ke213_116_l10_K4 {i : Nat → Int32} {a : Nat → List Int32} {q : Nat → List Int64} {r : Nat → Nat} (hI : kI i a q) (hr : kr r) (x1 : Int32) (x3 : Int32) (hp0 : ((0 : Int) ≤ x1.toInt) ∧ (x1.toInt ≤ 49)) (hp1 : ((a 134).getD x1.toNatClampNeg 0).toInt = 4) (hp2 : ((0 : Int) ≤ (i 7457).toInt) ∧ (((i 7457).toInt + 8) ≤ 900)) : km 15 213 [.ref 116, .int x1, .int 0, .int x3] (ks i a q r) (kVI yw213_116_l10_K4 i a q r (fun v i1 a1 q1 r1 => ((i1 7457).toInt = ((i 7457).toInt + 8)) ∧ (v = av0_3_4 x1 x3 ∧ trS (a 135) (i 7457) (a1 135) (i1 7457) [2, 10, 20, 1, 50, 11, 20, 1]))) := by
  have hG := kG_self yw213_116_l10_K4 hI hr
  refine km_ofI (q := (mi_h213, mi_c213)) rfl (by decide) (Nat.le_of_ble_eq_true rfl) ?_
  intro P hP
  have r1 : ((0 : Int) ≤ ((a 134).getD x1.toNatClampNeg 0).toInt) ∧ (((a 134).getD x1.toNatClampNeg 0).toInt ≤ 7) := hG.I.2.2.1 134 (x1.toNatClampNeg)
  have fi_7457 : ((0 : Int) ≤ (i 7457).toInt) ∧ ((i 7457).toInt ≤ 1000) := hG.I.1 7457
  refine ft_go mi_k213 4 38 [(0, .ref 116), (1, .int x1), (2, .int 0), (3, .int x3)] [.int 2, .ref 116] i a q r (by rfl) ?_
  refine ko_callN mi_k213.1 (pc := 38) (ls := [(0, .ref 116), (1, .int x1), (2, .int 0), (3, .int x3)]) (st := [.int 2, .ref 116]) (h := ks i a q r) (i := (.invokevirtual 351, 3, 209, 0, 9, 0, 464)) (mi_k213.2 _ _ (by rfl)) (ft_invS mi_pq209 (by rfl)) (cy := mi_c209) mi_pq209 rfl (ke209_116 hG.I hG.R 2 (or69 fi_7457.1 hp2.2)) (by decide) ?_
  intro ig2 ag2 qg2 rg2 kg2 hg2
  have hGg2 := kG_call hG kg2 (by decide +kernel)
  obtain ⟨hg2, og2⟩ := hg2
  have fig2_7457 : ((0 : Int) ≤ (ig2 7457).toInt) ∧ ((ig2 7457).toInt ≤ 1000) := hGg2.I.1 7457
  have z3 : (ig2 7457).toInt = ((i 7457).toInt + 1) := hg2
  have t4 : trS (a 135) (i 7457) (ag2 135) (ig2 7457) [2] := og2
  refine ft_go mi_k213 5 48 [(0, .ref 116), (1, .int x1), (2, .int 0), (3, .int x3)] [.int x1, .ref 134, .int x1, .ref 116] ig2 ag2 qg2 rg2 (by rfl) ?_
  refine ko_iald3 mi_k213.1 (n := 50) (c := 50) (ax := (0, 0, 0, 0, 0)) (mi_k213.2 _ _ (by rfl)) (by rfl) (ksG134 _ _ _ _) (hGg2.I.2.1 134) rfl (or14 hp0.1) (or20 hp0.2) ?_
  have r5 : ((0 : Int) ≤ ((ag2 134).getD x1.toNatClampNeg 0).toInt) ∧ (((ag2 134).getD x1.toNatClampNeg 0).toInt ≤ 7) := hGg2.I.2.2.1 134 (x1.toNatClampNeg)
  have u6 : ((ag2 134).getD x1.toNatClampNeg 0).toInt = ((a 134).getD x1.toNatClampNeg 0).toInt := congrArg (fun z : List Int32 => (z.getD x1.toNatClampNeg 0).toInt) (kg2.fa 134 rfl)
  refine ko_eq (x1 := (49, [(0, .ref 116), (1, .int x1), (2, .int 0), (3, .int x3)], [.int 4, .int x1, .ref 116], (0, 0), ks ig2 ag2 qg2 rg2)) (by rw [(kj_eq (or70 hp1 u6) (by decide) : ((ag2 134).getD x1.toNatClampNeg 0) = 4)]) ?_
  refine ft_go mi_k213 1 50 [(0, .ref 116), (1, .int x1), (2, .int 0), (3, .int x3)] [.int x3, .int 4, .int x1, .ref 116] ig2 ag2 qg2 rg2 (by rfl) ?_
  refine ko_callI mi_k213.1 (pc := 50) (ls := [(0, .ref 116), (1, .int x1), (2, .int 0), (3, .int x3)]) (st := [.int x3, .int 4, .int x1, .ref 116]) (h := ks ig2 ag2 qg2 rg2) (i := (.invokevirtual 360, 3, 211, 0, 9, 0, 466)) (mi_k213.2 _ _ (by rfl)) (ft_invS mi_pq211 (by rfl)) (cy := mi_c211) mi_pq211 rfl (ke211_116_l14_K4 hGg2.I hGg2.R x1 x3 (or25 hp0.1 hp0.2) (or70 hp1 u6) (or74 fig2_7457.1 hp2.2 z3)) (by decide) ?_
  intro vg7 ig7 ag7 qg7 rg7 kg7 hg7
  have hGg7 := kG_call hGg2 kg7 (by decide +kernel)
  obtain ⟨hg7, og7⟩ := hg7
  have fig7_7457 : ((0 : Int) ≤ (ig7 7457).toInt) ∧ ((ig7 7457).toInt ≤ 1000) := hGg7.I.1 7457
  have z8 : (ig7 7457).toInt = ((ig2 7457).toInt + 3) := hg7
  have q9 : vg7 = av0_1_4 x1 x3 := og7.1
  have t10 : trS (ag2 135) (ig2 7457) (ag7 135) (ig7 7457) [10, 20, 1] := og7.2
  refine ft_go mi_k213 7 64 [(4, .int vg7), (0, .ref 116), (1, .int x1), (2, .int 0), (3, .int x3)] [.int x1, .ref 134, .int x1, .ref 116, .int vg7] ig7 ag7 qg7 rg7 (by rfl) ?_
  refine ko_iald3 mi_k213.1 (n := 50) (c := 50) (ax := (0, 0, 0, 0, 0)) (mi_k213.2 _ _ (by rfl)) (by rfl) (ksG134 _ _ _ _) (hGg7.I.2.1 134) rfl (or14 hp0.1) (or20 hp0.2) ?_
  have r11 : ((0 : Int) ≤ ((ag7 134).getD x1.toNatClampNeg 0).toInt) ∧ (((ag7 134).getD x1.toNatClampNeg 0).toInt ≤ 7) := hGg7.I.2.2.1 134 (x1.toNatClampNeg)
  have u12 : ((ag7 134).getD x1.toNatClampNeg 0).toInt = ((ag2 134).getD x1.toNatClampNeg 0).toInt := congrArg (fun z : List Int32 => (z.getD x1.toNatClampNeg 0).toInt) (kg7.fa 134 rfl)
  refine ko_eq (x1 := (65, [(4, .int vg7), (0, .ref 116), (1, .int x1), (2, .int 0), (3, .int x3)], [.int 4, .int x1, .ref 116, .int vg7], (0, 0), ks ig7 ag7 qg7 rg7)) (by rw [(kj_eq (or75 hp1 u12 u6) (by decide) : ((ag7 134).getD x1.toNatClampNeg 0) = 4)]) ?_
  refine ft_go mi_k213 1 66 [(4, .int vg7), (0, .ref 116), (1, .int x1), (2, .int 0), (3, .int x3)] [.int 1, .int 4, .int x1, .ref 116, .int vg7] ig7 ag7 qg7 rg7 (by rfl) ?_
  refine ko_callI mi_k213.1 (pc := 66) (ls := [(4, .int vg7), (0, .ref 116), (1, .int x1), (2, .int 0), (3, .int x3)]) (st := [.int 1, .int 4, .int x1, .ref 116, .int vg7]) (h := ks ig7 ag7 qg7 rg7) (i := (.invokevirtual 363, 3, 212, 0, 9, 0, 467)) (mi_k213.2 _ _ (by rfl)) (ft_invS mi_pq212 (by rfl)) (cy := mi_c212) mi_pq212 rfl (ke212_116_l14_K4 hGg7.I hGg7.R x1 1 (or25 hp0.1 hp0.2) (or75 hp1 u12 u6) (or79 fig7_7457.1 hp2.2 z3 z8)) (by decide) ?_
  intro vg13 ig13 ag13 qg13 rg13 kg13 hg13
  have hGg13 := kG_call hGg7 kg13 (by decide +kernel)
  obtain ⟨hg13, og13⟩ := hg13
  have fig13_7457 : ((0 : Int) ≤ (ig13 7457).toInt) ∧ ((ig13 7457).toInt ≤ 1000) := hGg13.I.1 7457
  have z14 : (ig13 7457).toInt = ((ig7 7457).toInt + 4) := hg13
  have q15 : vg13 = av4_2_4 x1 (1 : Int32) := og13.1
  have t16 : trS (ag7 135) (ig7 7457) (ag13 135) (ig13 7457) [50, 11, 20, 1] := og13.2
  have b17 : ((-2147483648 : Int) ≤ vg7.toInt) ∧ (vg7.toInt ≤ 2147483647) := kd_bd vg7
  have b18 : ((-2147483648 : Int) ≤ vg13.toInt) ∧ (vg13.toInt ≤ 2147483647) := kd_bd vg13
  refine ft_go mi_k213 1 70 [(4, .int vg7), (0, .ref 116), (1, .int x1), (2, .int 0), (3, .int x3)] [.int (vg7 - vg13)] ig13 ag13 qg13 rg13 (by rfl) ?_
  exact ft_ret mi_k213 (by rfl) (hP (vg7 - vg13) _ _ _ _ hGg13 ⟨(or80 z14 z3 z8), ⟨(show (vg7 - vg13) = av0_3_4 x1 x3 from by rw [q9, q15]; rfl), (tr_app (es := [2, 10, 20, 1, 50, 11, 20, 1]) (tr_app (es := [2, 10, 20, 1]) t4 t10 (by rfl)) t16 (by rfl))⟩⟩)
def yw213_116_l11_K4 : kW := ([7457], [135], [], [])
set_option maxRecDepth 100000 in
theorem ke213_116_l11_K4 {i : Nat → Int32} {a : Nat → List Int32} {q : Nat → List Int64} {r : Nat → Nat} (hI : kI i a q) (hr : kr r) (x1 : Int32) (x3 : Int32) (hp0 : ((0 : Int) ≤ x1.toInt) ∧ (x1.toInt ≤ 49)) (hp1 : ((a 134).getD x1.toNatClampNeg 0).toInt = 4) (hp2 : ((0 : Int) ≤ (i 7457).toInt) ∧ (((i 7457).toInt + 8) ≤ 900)) : km 17 213 [.ref 116, .int x1, .int 1, .int x3] (ks i a q r) (kVI yw213_116_l11_K4 i a q r (fun v i1 a1 q1 r1 => ((i1 7457).toInt = ((i 7457).toInt + 8)) ∧ (v = av0_3_4 x1 x3 ∧ trS (a 135) (i 7457) (a1 135) (i1 7457) [2, 10, 20, 1, 50, 11, 20, 1]))) := by
  have hG := kG_self yw213_116_l11_K4 hI hr
  refine km_ofI (q := (mi_h213, mi_c213)) rfl (by decide) (Nat.le_of_ble_eq_true rfl) ?_
  intro P hP
  have r1 : ((0 : Int) ≤ ((a 134).getD x1.toNatClampNeg 0).toInt) ∧ (((a 134).getD x1.toNatClampNeg 0).toInt ≤ 7) := hG.I.2.2.1 134 (x1.toNatClampNeg)
  have fi_7457 : ((0 : Int) ≤ (i 7457).toInt) ∧ ((i 7457).toInt ≤ 1000) := hG.I.1 7457
  refine ft_go mi_k213 5 106 [(0, .ref 116), (1, .int x1), (2, .int 1), (3, .int x3)] [.int 1, .int x1, .ref 116] i a q r (by rfl) ?_
  refine ko_callPI mi_k213.1 (pc := 106) (ls := [(0, .ref 116), (1, .int x1), (2, .int 1), (3, .int x3)]) (st := [.int 1, .int x1, .ref 116]) (h := ks i a q r) (i := (.invokestatic 357, 3, 208, 0, 9, 0, 465)) (mi_k213.2 _ _ (by rfl)) (ft_invS mi_pq208 (by rfl)) (cy := mi_c208) mi_pq208 rfl (kc208_l01 hG.I hG.R ) (by decide) ?_
  intro vg2 hg2
  have z3 : vg2.toInt = 0 := hg2
  have evvg2 := kj_eq (or37 z3) (by decide : (0 : Int32).toInt = 0)
  subst evvg2
  refine ft_go mi_k213 1 110 [(0, .ref 116), (1, .int x1), (2, .int 1), (3, .int x3)] [.int x3, .int 0, .int x1, .ref 116] i a q r (by rfl) ?_
  refine ko_callI mi_k213.1 (pc := 110) (ls := [(0, .ref 116), (1, .int x1), (2, .int 1), (3, .int x3)]) (st := [.int x3, .int 0, .int x1, .ref 116]) (h := ks i a q r) (i := (.invokevirtual 366, 3, 213, 0, 9, 0, 468)) (mi_k213.2 _ _ (by rfl)) (ft_invS mi_pq213 (by rfl)) (cy := mi_c213) mi_pq213 rfl (ke213_116_l10_K4 hG.I hG.R x1 x3 (or25 hp0.1 hp0.2) (or71 hp1) (or81 fi_7457.1 hp2.2)) (by decide) ?_
  intro vg4 ig4 ag4 qg4 rg4 kg4 hg4
  have hGg4 := kG_call hG kg4 (by decide +kernel)
  obtain ⟨hg4, og4⟩ := hg4
  have fig4_7457 : ((0 : Int) ≤ (ig4 7457).toInt) ∧ ((ig4 7457).toInt ≤ 1000) := hGg4.I.1 7457
  have z5 : (ig4 7457).toInt = ((i 7457).toInt + 8) := hg4
  have q6 : vg4 = av0_3_4 x1 x3 := og4.1
  have t7 : trS (a 135) (i 7457) (ag4 135) (ig4 7457) [2, 10, 20, 1, 50, 11, 20, 1] := og4.2
  exact ft_ret mi_k213 (by rfl) (hP vg4 _ _ _ _ hGg4 ⟨(or82 z5), ⟨(show vg4 = av0_3_4 x1 x3 from congrArg (fun z0_ => z0_) q6), t7⟩⟩)
def yw213_116_l14_K4 : kW := ([7457], [135], [], [])
set_option maxRecDepth 100000 in
theorem ke213_116_l14_K4 {i : Nat → Int32} {a : Nat → List Int32} {q : Nat → List Int64} {r : Nat → Nat} (hI : kI i a q) (hr : kr r) (x1 : Int32) (x3 : Int32) (hp0 : ((0 : Int) ≤ x1.toInt) ∧ (x1.toInt ≤ 49)) (hp1 : ((a 134).getD x1.toNatClampNeg 0).toInt = 4) (hp2 : ((0 : Int) ≤ (i 7457).toInt) ∧ (((i 7457).toInt + 8) ≤ 900)) : km 19 213 [.ref 116, .int x1, .int 4, .int x3] (ks i a q r) (kVI yw213_116_l14_K4 i a q r (fun v i1 a1 q1 r1 => ((i1 7457).toInt = ((i 7457).toInt + 8)) ∧ (v = av0_3_4 x1 x3 ∧ trS (a 135) (i 7457) (a1 135) (i1 7457) [2, 10, 20, 1, 50, 11, 20, 1]))) := by
  have hG := kG_self yw213_116_l14_K4 hI hr
  refine km_ofI (q := (mi_h213, mi_c213)) rfl (by decide) (Nat.le_of_ble_eq_true rfl) ?_
  intro P hP
  have r1 : ((0 : Int) ≤ ((a 134).getD x1.toNatClampNeg 0).toInt) ∧ (((a 134).getD x1.toNatClampNeg 0).toInt ≤ 7) := hG.I.2.2.1 134 (x1.toNatClampNeg)
  have fi_7457 : ((0 : Int) ≤ (i 7457).toInt) ∧ ((i 7457).toInt ≤ 1000) := hG.I.1 7457
  refine ft_go mi_k213 5 106 [(0, .ref 116), (1, .int x1), (2, .int 4), (3, .int x3)] [.int 4, .int x1, .ref 116] i a q r (by rfl) ?_
  refine ko_callPI mi_k213.1 (pc := 106) (ls := [(0, .ref 116), (1, .int x1), (2, .int 4), (3, .int x3)]) (st := [.int 4, .int x1, .ref 116]) (h := ks i a q r) (i := (.invokestatic 357, 3, 208, 0, 9, 0, 465)) (mi_k213.2 _ _ (by rfl)) (ft_invS mi_pq208 (by rfl)) (cy := mi_c208) mi_pq208 rfl (kc208_l04 hG.I hG.R ) (by decide) ?_
  intro vg2 hg2
  have z3 : vg2.toInt = 1 := hg2
  have evvg2 := kj_eq (or43 z3) (by decide : (1 : Int32).toInt = 1)
  subst evvg2
  refine ft_go mi_k213 1 110 [(0, .ref 116), (1, .int x1), (2, .int 4), (3, .int x3)] [.int x3, .int 1, .int x1, .ref 116] i a q r (by rfl) ?_
  refine ko_callI mi_k213.1 (pc := 110) (ls := [(0, .ref 116), (1, .int x1), (2, .int 4), (3, .int x3)]) (st := [.int x3, .int 1, .int x1, .ref 116]) (h := ks i a q r) (i := (.invokevirtual 366, 3, 213, 0, 9, 0, 468)) (mi_k213.2 _ _ (by rfl)) (ft_invS mi_pq213 (by rfl)) (cy := mi_c213) mi_pq213 rfl (ke213_116_l11_K4 hG.I hG.R x1 x3 (or25 hp0.1 hp0.2) (or71 hp1) (or81 fi_7457.1 hp2.2)) (by decide) ?_
  intro vg4 ig4 ag4 qg4 rg4 kg4 hg4
  have hGg4 := kG_call hG kg4 (by decide +kernel)
  obtain ⟨hg4, og4⟩ := hg4
  have fig4_7457 : ((0 : Int) ≤ (ig4 7457).toInt) ∧ ((ig4 7457).toInt ≤ 1000) := hGg4.I.1 7457
  have z5 : (ig4 7457).toInt = ((i 7457).toInt + 8) := hg4
  have q6 : vg4 = av0_3_4 x1 x3 := og4.1
  have t7 : trS (a 135) (i 7457) (ag4 135) (ig4 7457) [2, 10, 20, 1, 50, 11, 20, 1] := og4.2
  exact ft_ret mi_k213 (by rfl) (hP vg4 _ _ _ _ hGg4 ⟨(or82 z5), ⟨(show vg4 = av0_3_4 x1 x3 from congrArg (fun z0_ => z0_) q6), t7⟩⟩)
def yw210_116_l10_K5 : kW := ([7457], [135], [], [])
set_option maxRecDepth 100000 in
theorem ke210_116_l10_K5 {i : Nat → Int32} {a : Nat → List Int32} {q : Nat → List Int64} {r : Nat → Nat} (hI : kI i a q) (hr : kr r) (x1 : Int32) (x3 : Int32) (hp0 : ((0 : Int) ≤ x1.toInt) ∧ (x1.toInt ≤ 49)) (hp1 : ((a 134).getD x1.toNatClampNeg 0).toInt = 5) (hp2 : ((0 : Int) ≤ (i 7457).toInt) ∧ (((i 7457).toInt + 1) ≤ 900)) : km 3 210 [.ref 116, .int x1, .int 0, .int x3] (ks i a q r) (kVI yw210_116_l10_K5 i a q r (fun v i1 a1 q1 r1 => ((i1 7457).toInt = ((i 7457).toInt + 1)) ∧ (v = av0_0_5 x1 x3 ∧ trS (a 135) (i 7457) (a1 135) (i1 7457) [1]))) := by
  have hG := kG_self yw210_116_l10_K5 hI hr
  refine km_ofI (q := (mi_h210, mi_c210)) rfl (by decide) (Nat.le_of_ble_eq_true rfl) ?_
  intro P hP
  have r1 : ((0 : Int) ≤ ((a 134).getD x1.toNatClampNeg 0).toInt) ∧ (((a 134).getD x1.toNatClampNeg 0).toInt ≤ 7) := hG.I.2.2.1 134 (x1.toNatClampNeg)
  have fi_7457 : ((0 : Int) ≤ (i 7457).toInt) ∧ ((i 7457).toInt ≤ 1000) := hG.I.1 7457
  refine ft_go mi_k210 4 38 [(0, .ref 116), (1, .int x1), (2, .int 0), (3, .int x3)] [.int 1, .ref 116] i a q r (by rfl) ?_
  refine ko_callN mi_k210.1 (pc := 38) (ls := [(0, .ref 116), (1, .int x1), (2, .int 0), (3, .int x3)]) (st := [.int 1, .ref 116]) (h := ks i a q r) (i := (.invokevirtual 351, 3, 209, 0, 9, 0, 464)) (mi_k210.2 _ _ (by rfl)) (ft_invS mi_pq209 (by rfl)) (cy := mi_c209) mi_pq209 rfl (ke209_116 hG.I hG.R 1 (or23 fi_7457.1 hp2.2)) (by decide) ?_
  intro ig2 ag2 qg2 rg2 kg2 hg2
  have hGg2 := kG_call hG kg2 (by decide +kernel)
  obtain ⟨hg2, og2⟩ := hg2
  have fig2_7457 : ((0 : Int) ≤ (ig2 7457).toInt) ∧ ((ig2 7457).toInt ≤ 1000) := hGg2.I.1 7457
  have z3 : (ig2 7457).toInt = ((i 7457).toInt + 1) := hg2
  have t4 : trS (a 135) (i 7457) (ag2 135) (ig2 7457) [1] := og2
  have b5 : ((-2147483648 : Int) ≤ x3.toInt) ∧ (x3.toInt ≤ 2147483647) := kd_bd x3
  have b6 : ((-2147483648 : Int) ≤ x1.toInt) ∧ (x1.toInt ≤ 2147483647) := kd_bd x1
  refine ft_go mi_k210 3 44 [(0, .ref 116), (1, .int x1), (2, .int 0), (3, .int x3)] [.int (x3 + x1)] ig2 ag2 qg2 rg2 (by rfl) ?_
  exact ft_ret mi_k210 (by rfl) (hP (x3 + x1) _ _ _ _ hGg2 ⟨(or24 z3), ⟨(show (x3 + x1) = av0_0_5 x1 x3 from rfl), t4⟩⟩)
def yw210_116_l12_K5 : kW := ([7457], [135], [], [])
set_option maxRecDepth 100000 in
theorem ke210_116_l12_K5 {i : Nat → Int32} {a : Nat → List Int32} {q : Nat → List Int64} {r : Nat → Nat} (hI : kI i a q) (hr : kr r) (x1 : Int32) (x3 : Int32) (hp0 : ((0 : Int) ≤ x1.toInt) ∧ (x1.toInt ≤ 49)) (hp1 : ((a 134).getD x1.toNatClampNeg 0).toInt = 5) (hp2 : ((0 : Int) ≤ (i 7457).toInt) ∧ (((i 7457).toInt + 1) ≤ 900)) : km 5 210 [.ref 116, .int x1, .int 2, .int x3] (ks i a q r) (kVI yw210_116_l12_K5 i a q r (fun v i1 a1 q1 r1 => ((i1 7457).toInt = ((i 7457).toInt + 1)) ∧ (v = av0_0_5 x1 x3 ∧ trS (a 135) (i 7457) (a1 135) (i1 7457) [1]))) := by
  have hG := kG_self yw210_116_l12_K5 hI hr
  refine km_ofI (q := (mi_h210, mi_c210)) rfl (by decide) (Nat.le_of_ble_eq_true rfl) ?_
  intro P hP
  have r1 : ((0 : Int) ≤ ((a 134).getD x1.toNatClampNeg 0).toInt) ∧ (((a 134).getD x1.toNatClampNeg 0).toInt ≤ 7) := hG.I.2.2.1 134 (x1.toNatClampNeg)
  have fi_7457 : ((0 : Int) ≤ (i 7457).toInt) ∧ ((i 7457).toInt ≤ 1000) := hG.I.1 7457
  refine ft_go mi_k210 5 80 [(0, .ref 116), (1, .int x1), (2, .int 2), (3, .int x3)] [.int 2, .int x1, .ref 116] i a q r (by rfl) ?_
  refine ko_callPI mi_k210.1 (pc := 80) (ls := [(0, .ref 116), (1, .int x1), (2, .int 2), (3, .int x3)]) (st := [.int 2, .int x1, .ref 116]) (h := ks i a q r) (i := (.invokestatic 357, 3, 208, 0, 9, 0, 465)) (mi_k210.2 _ _ (by rfl)) (ft_invS mi_pq208 (by rfl)) (cy := mi_c208) mi_pq208 rfl (kc208_l02 hG.I hG.R ) (by decide) ?_
  intro vg2 hg2
  have z3 : vg2.toInt = 0 := hg2
  have evvg2 := kj_eq (or37 z3) (by decide : (0 : Int32).toInt = 0)
  subst evvg2
  refine ft_go mi_k210 1 84 [(0, .ref 116), (1, .int x1), (2, .int 2), (3, .int x3)] [.int x3, .int 0, .int x1, .ref 116] i a q r (by rfl) ?_
  refine ko_callI mi_k210.1 (pc := 84) (ls := [(0, .ref 116), (1, .int x1), (2, .int 2), (3, .int x3)]) (st := [.int x3, .int 0, .int x1, .ref 116]) (h := ks i a q r) (i := (.invokevirtual 354, 3, 210, 0, 9, 0, 463)) (mi_k210.2 _ _ (by rfl)) (ft_invS mi_pq210 (by rfl)) (cy := mi_c210) mi_pq210 rfl (ke210_116_l10_K5 hG.I hG.R x1 x3 (or25 hp0.1 hp0.2) (or85 hp1) (or48 fi_7457.1 hp2.2)) (by decide) ?_
  intro vg4 ig4 ag4 qg4 rg4 kg4 hg4
  have hGg4 := kG_call hG kg4 (by decide +kernel)
  obtain ⟨hg4, og4⟩ := hg4
  have fig4_7457 : ((0 : Int) ≤ (ig4 7457).toInt) ∧ ((ig4 7457).toInt ≤ 1000) := hGg4.I.1 7457
  have z5 : (ig4 7457).toInt = ((i 7457).toInt + 1) := hg4
  have q6 : vg4 = av0_0_5 x1 x3 := og4.1
  have t7 : trS (a 135) (i 7457) (ag4 135) (ig4 7457) [1] := og4.2
  exact ft_ret mi_k210 (by rfl) (hP vg4 _ _ _ _ hGg4 ⟨(or24 z5), ⟨(show vg4 = av0_0_5 x1 x3 from congrArg (fun z0_ => z0_) q6), t7⟩⟩)
def yw210_116_l13_K5 : kW := ([7457], [135], [], [])
set_option maxRecDepth 100000 in
theorem ke210_116_l13_K5 {i : Nat → Int32} {a : Nat → List Int32} {q : Nat → List Int64} {r : Nat → Nat} (hI : kI i a q) (hr : kr r) (x1 : Int32) (x3 : Int32) (hp0 : ((0 : Int) ≤ x1.toInt) ∧ (x1.toInt ≤ 49)) (hp1 : ((a 134).getD x1.toNatClampNeg 0).toInt = 5) (hp2 : ((0 : Int) ≤ (i 7457).toInt) ∧ (((i 7457).toInt + 1) ≤ 900)) : km 7 210 [.ref 116, .int x1, .int 3, .int x3] (ks i a q r) (kVI yw210_116_l13_K5 i a q r (fun v i1 a1 q1 r1 => ((i1 7457).toInt = ((i 7457).toInt + 1)) ∧ (v = av0_0_5 x1 x3 ∧ trS (a 135) (i 7457) (a1 135) (i1 7457) [1]))) := by
  have hG := kG_self yw210_116_l13_K5 hI hr
  refine km_ofI (q := (mi_h210, mi_c210)) rfl (by decide) (Nat.le_of_ble_eq_true rfl) ?_
  intro P hP
  have r1 : ((0 : Int) ≤ ((a 134).getD x1.toNatClampNeg 0).toInt) ∧ (((a 134).getD x1.toNatClampNeg 0).toInt ≤ 7) := hG.I.2.2.1 134 (x1.toNatClampNeg)
  have fi_7457 : ((0 : Int) ≤ (i 7457).toInt) ∧ ((i 7457).toInt ≤ 1000) := hG.I.1 7457
  refine ft_go mi_k210 5 80 [(0, .ref 116), (1, .int x1), (2, .int 3), (3, .int x3)] [.int 3, .int x1, .ref 116] i a q r (by rfl) ?_
  refine ko_callPI mi_k210.1 (pc := 80) (ls := [(0, .ref 116), (1, .int x1), (2, .int 3), (3, .int x3)]) (st := [.int 3, .int x1, .ref 116]) (h := ks i a q r) (i := (.invokestatic 357, 3, 208, 0, 9, 0, 465)) (mi_k210.2 _ _ (by rfl)) (ft_invS mi_pq208 (by rfl)) (cy := mi_c208) mi_pq208 rfl (kc208_l03 hG.I hG.R ) (by decide) ?_
  intro vg2 hg2
  have z3 : vg2.toInt = 2 := hg2
  have evvg2 := kj_eq (or55 z3) (by decide : (2 : Int32).toInt = 2)
  subst evvg2
  refine ft_go mi_k210 1 84 [(0, .ref 116), (1, .int x1), (2, .int 3), (3, .int x3)] [.int x3, .int 2, .int x1, .ref 116] i a q r (by rfl) ?_
  refine ko_callI mi_k210.1 (pc := 84) (ls := [(0, .ref 116), (1, .int x1), (2, .int 3), (3, .int x3)]) (st := [.int x3, .int 2, .int x1, .ref 116]) (h := ks i a q r) (i := (.invokevirtual 354, 3, 210, 0, 9, 0, 463)) (mi_k210.2 _ _ (by rfl)) (ft_invS mi_pq210 (by rfl)) (cy := mi_c210) mi_pq210 rfl (ke210_116_l12_K5 hG.I hG.R x1 x3 (or25 hp0.1 hp0.2) (or85 hp1) (or48 fi_7457.1 hp2.2)) (by decide) ?_
  intro vg4 ig4 ag4 qg4 rg4 kg4 hg4
  have hGg4 := kG_call hG kg4 (by decide +kernel)
  obtain ⟨hg4, og4⟩ := hg4
  have fig4_7457 : ((0 : Int) ≤ (ig4 7457).toInt) ∧ ((ig4 7457).toInt ≤ 1000) := hGg4.I.1 7457
  have z5 : (ig4 7457).toInt = ((i 7457).toInt + 1) := hg4
  have q6 : vg4 = av0_0_5 x1 x3 := og4.1
  have t7 : trS (a 135) (i 7457) (ag4 135) (ig4 7457) [1] := og4.2
  exact ft_ret mi_k210 (by rfl) (hP vg4 _ _ _ _ hGg4 ⟨(or24 z5), ⟨(show vg4 = av0_0_5 x1 x3 from congrArg (fun z0_ => z0_) q6), t7⟩⟩)
def yw210_116_l15_K5 : kW := ([7457], [135], [], [])
set_option maxRecDepth 100000 in
theorem ke210_116_l15_K5 {i : Nat → Int32} {a : Nat → List Int32} {q : Nat → List Int64} {r : Nat → Nat} (hI : kI i a q) (hr : kr r) (x1 : Int32) (x3 : Int32) (hp0 : ((0 : Int) ≤ x1.toInt) ∧ (x1.toInt ≤ 49)) (hp1 : ((a 134).getD x1.toNatClampNeg 0).toInt = 5) (hp2 : ((0 : Int) ≤ (i 7457).toInt) ∧ (((i 7457).toInt + 1) ≤ 900)) : km 9 210 [.ref 116, .int x1, .int 5, .int x3] (ks i a q r) (kVI yw210_116_l15_K5 i a q r (fun v i1 a1 q1 r1 => ((i1 7457).toInt = ((i 7457).toInt + 1)) ∧ (v = av0_0_5 x1 x3 ∧ trS (a 135) (i 7457) (a1 135) (i1 7457) [1]))) := by
  have hG := kG_self yw210_116_l15_K5 hI hr
  refine km_ofI (q := (mi_h210, mi_c210)) rfl (by decide) (Nat.le_of_ble_eq_true rfl) ?_
  intro P hP
  have r1 : ((0 : Int) ≤ ((a 134).getD x1.toNatClampNeg 0).toInt) ∧ (((a 134).getD x1.toNatClampNeg 0).toInt ≤ 7) := hG.I.2.2.1 134 (x1.toNatClampNeg)
  have fi_7457 : ((0 : Int) ≤ (i 7457).toInt) ∧ ((i 7457).toInt ≤ 1000) := hG.I.1 7457
  refine ft_go mi_k210 5 80 [(0, .ref 116), (1, .int x1), (2, .int 5), (3, .int x3)] [.int 5, .int x1, .ref 116] i a q r (by rfl) ?_
  refine ko_callPI mi_k210.1 (pc := 80) (ls := [(0, .ref 116), (1, .int x1), (2, .int 5), (3, .int x3)]) (st := [.int 5, .int x1, .ref 116]) (h := ks i a q r) (i := (.invokestatic 357, 3, 208, 0, 9, 0, 465)) (mi_k210.2 _ _ (by rfl)) (ft_invS mi_pq208 (by rfl)) (cy := mi_c208) mi_pq208 rfl (kc208_l05 hG.I hG.R ) (by decide) ?_
  intro vg2 hg2
  have z3 : vg2.toInt = 3 := hg2
  have evvg2 := kj_eq (or59 z3) (by decide : (3 : Int32).toInt = 3)
  subst evvg2
  refine ft_go mi_k210 1 84 [(0, .ref 116), (1, .int x1), (2, .int 5), (3, .int x3)] [.int x3, .int 3, .int x1, .ref 116] i a q r (by rfl) ?_
  refine ko_callI mi_k210.1 (pc := 84) (ls := [(0, .ref 116), (1, .int x1), (2, .int 5), (3, .int x3)]) (st := [.int x3, .int 3, .int x1, .ref 116]) (h := ks i a q r) (i := (.invokevirtual 354, 3, 210, 0, 9, 0, 463)) (mi_k210.2 _ _ (by rfl)) (ft_invS mi_pq210 (by rfl)) (cy := mi_c210) mi_pq210 rfl (ke210_116_l13_K5 hG.I hG.R x1 x3 (or25 hp0.1 hp0.2) (or85 hp1) (or48 fi_7457.1 hp2.2)) (by decide) ?_
  intro vg4 ig4 ag4 qg4 rg4 kg4 hg4
  have hGg4 := kG_call hG kg4 (by decide +kernel)
  obtain ⟨hg4, og4⟩ := hg4
  have fig4_7457 : ((0 : Int) ≤ (ig4 7457).toInt) ∧ ((ig4 7457).toInt ≤ 1000) := hGg4.I.1 7457
  have z5 : (ig4 7457).toInt = ((i 7457).toInt + 1) := hg4
  have q6 : vg4 = av0_0_5 x1 x3 := og4.1
  have t7 : trS (a 135) (i 7457) (ag4 135) (ig4 7457) [1] := og4.2
  exact ft_ret mi_k210 (by rfl) (hP vg4 _ _ _ _ hGg4 ⟨(or24 z5), ⟨(show vg4 = av0_0_5 x1 x3 from congrArg (fun z0_ => z0_) q6), t7⟩⟩)
def yw211_116_l10_K5 : kW := ([7457], [135], [], [])
set_option maxRecDepth 100000 in
theorem ke211_116_l10_K5 {i : Nat → Int32} {a : Nat → List Int32} {q : Nat → List Int64} {r : Nat → Nat} (hI : kI i a q) (hr : kr r) (x1 : Int32) (x3 : Int32) (hp0 : ((0 : Int) ≤ x1.toInt) ∧ (x1.toInt ≤ 49)) (hp1 : ((a 134).getD x1.toNatClampNeg 0).toInt = 5) (hp2 : ((0 : Int) ≤ (i 7457).toInt) ∧ (((i 7457).toInt + 2) ≤ 900)) : km 11 211 [.ref 116, .int x1, .int 0, .int x3] (ks i a q r) (kVI yw211_116_l10_K5 i a q r (fun v i1 a1 q1 r1 => ((i1 7457).toInt = ((i 7457).toInt + 2)) ∧ (v = av0_1_5 x1 x3 ∧ trS (a 135) (i 7457) (a1 135) (i1 7457) [10, 1]))) := by
  have hG := kG_self yw211_116_l10_K5 hI hr
  refine km_ofI (q := (mi_h211, mi_c211)) rfl (by decide) (Nat.le_of_ble_eq_true rfl) ?_
  intro P hP
  have r1 : ((0 : Int) ≤ ((a 134).getD x1.toNatClampNeg 0).toInt) ∧ (((a 134).getD x1.toNatClampNeg 0).toInt ≤ 7) := hG.I.2.2.1 134 (x1.toNatClampNeg)
  have fi_7457 : ((0 : Int) ≤ (i 7457).toInt) ∧ ((i 7457).toInt ≤ 1000) := hG.I.1 7457
  refine ft_go mi_k211 4 51 [(0, .ref 116), (1, .int x1), (2, .int 0), (3, .int x3)] [.int 10, .ref 116] i a q r (by rfl) ?_
  refine ko_callN mi_k211.1 (pc := 51) (ls := [(0, .ref 116), (1, .int x1), (2, .int 0), (3, .int x3)]) (st := [.int 10, .ref 116]) (h := ks i a q r) (i := (.invokevirtual 351, 3, 209, 0, 9, 0, 464)) (mi_k211.2 _ _ (by rfl)) (ft_invS mi_pq209 (by rfl)) (cy := mi_c209) mi_pq209 rfl (ke209_116 hG.I hG.R 10 (or22 fi_7457.1 hp2.2)) (by decide) ?_
  intro ig2 ag2 qg2 rg2 kg2 hg2
  have hGg2 := kG_call hG kg2 (by decide +kernel)
  obtain ⟨hg2, og2⟩ := hg2
  have fig2_7457 : ((0 : Int) ≤ (ig2 7457).toInt) ∧ ((ig2 7457).toInt ≤ 1000) := hGg2.I.1 7457
  have z3 : (ig2 7457).toInt = ((i 7457).toInt + 1) := hg2
  have t4 : trS (a 135) (i 7457) (ag2 135) (ig2 7457) [10] := og2
  refine ft_go mi_k211 5 61 [(0, .ref 116), (1, .int x1), (2, .int 0), (3, .int x3)] [.int x1, .ref 134, .int x1, .ref 116] ig2 ag2 qg2 rg2 (by rfl) ?_
  refine ko_iald3 mi_k211.1 (n := 50) (c := 50) (ax := (0, 0, 0, 0, 0)) (mi_k211.2 _ _ (by rfl)) (by rfl) (ksG134 _ _ _ _) (hGg2.I.2.1 134) rfl (or14 hp0.1) (or20 hp0.2) ?_
  have r5 : ((0 : Int) ≤ ((ag2 134).getD x1.toNatClampNeg 0).toInt) ∧ (((ag2 134).getD x1.toNatClampNeg 0).toInt ≤ 7) := hGg2.I.2.2.1 134 (x1.toNatClampNeg)
  have u6 : ((ag2 134).getD x1.toNatClampNeg 0).toInt = ((a 134).getD x1.toNatClampNeg 0).toInt := congrArg (fun z : List Int32 => (z.getD x1.toNatClampNeg 0).toInt) (kg2.fa 134 rfl)
  refine ko_eq (x1 := (62, [(0, .ref 116), (1, .int x1), (2, .int 0), (3, .int x3)], [.int 5, .int x1, .ref 116], (0, 0), ks ig2 ag2 qg2 rg2)) (by rw [(kj_eq (or84 hp1 u6) (by decide) : ((ag2 134).getD x1.toNatClampNeg 0) = 5)]) ?_
  refine ft_go mi_k211 1 63 [(0, .ref 116), (1, .int x1), (2, .int 0), (3, .int x3)] [.int x3, .int 5, .int x1, .ref 116] ig2 ag2 qg2 rg2 (by rfl) ?_
  refine ko_callI mi_k211.1 (pc := 63) (ls := [(0, .ref 116), (1, .int x1), (2, .int 0), (3, .int x3)]) (st := [.int x3, .int 5, .int x1, .ref 116]) (h := ks ig2 ag2 qg2 rg2) (i := (.invokevirtual 354, 3, 210, 0, 9, 0, 463)) (mi_k211.2 _ _ (by rfl)) (ft_invS mi_pq210 (by rfl)) (cy := mi_c210) mi_pq210 rfl (ke210_116_l15_K5 hGg2.I hGg2.R x1 x3 (or25 hp0.1 hp0.2) (or84 hp1 u6) (or26 fig2_7457.1 hp2.2 z3)) (by decide) ?_
  intro vg7 ig7 ag7 qg7 rg7 kg7 hg7
  have hGg7 := kG_call hGg2 kg7 (by decide +kernel)
  obtain ⟨hg7, og7⟩ := hg7
  have fig7_7457 : ((0 : Int) ≤ (ig7 7457).toInt) ∧ ((ig7 7457).toInt ≤ 1000) := hGg7.I.1 7457
  have z8 : (ig7 7457).toInt = ((ig2 7457).toInt + 1) := hg7
  have q9 : vg7 = av0_0_5 x1 x3 := og7.1
  have t10 : trS (ag2 135) (ig2 7457) (ag7 135) (ig7 7457) [1] := og7.2
  have b11 : ((-2147483648 : Int) ≤ vg7.toInt) ∧ (vg7.toInt ≤ 2147483647) := kd_bd vg7
  refine ft_go mi_k211 2 68 [(0, .ref 116), (1, .int x1), (2, .int 0), (3, .int x3)] [.int (vg7 * 2)] ig7 ag7 qg7 rg7 (by rfl) ?_
  exact ft_ret mi_k211 (by rfl) (hP (vg7 * 2) _ _ _ _ hGg7 ⟨(or27 z3 z8), ⟨(show (vg7 * 2) = av0_1_5 x1 x3 from congrArg (fun z0_ => (z0_ * 2)) q9), (tr_app (es := [10, 1]) t4 t10 (by rfl))⟩⟩)
def yw211_116_l12_K5 : kW := ([7457], [135], [], [])
set_option maxRecDepth 100000 in
theorem ke211_116_l12_K5 {i : Nat → Int32} {a : Nat → List Int32} {q : Nat → List Int64} {r : Nat → Nat} (hI : kI i a q) (hr : kr r) (x1 : Int32) (x3 : Int32) (hp0 : ((0 : Int) ≤ x1.toInt) ∧ (x1.toInt ≤ 49)) (hp1 : ((a 134).getD x1.toNatClampNeg 0).toInt = 5) (hp2 : ((0 : Int) ≤ (i 7457).toInt) ∧ (((i 7457).toInt + 3) ≤ 900)) : km 13 211 [.ref 116, .int x1, .int 2, .int x3] (ks i a q r) (kVI yw211_116_l12_K5 i a q r (fun v i1 a1 q1 r1 => ((i1 7457).toInt = ((i 7457).toInt + 3)) ∧ (v = av2_1_5 x1 x3 ∧ trS (a 135) (i 7457) (a1 135) (i1 7457) [30, 10, 1]))) := by
  have hG := kG_self yw211_116_l12_K5 hI hr
  refine km_ofI (q := (mi_h211, mi_c211)) rfl (by decide) (Nat.le_of_ble_eq_true rfl) ?_
  intro P hP
  have r1 : ((0 : Int) ≤ ((a 134).getD x1.toNatClampNeg 0).toInt) ∧ (((a 134).getD x1.toNatClampNeg 0).toInt ≤ 7) := hG.I.2.2.1 134 (x1.toNatClampNeg)
  have fi_7457 : ((0 : Int) ≤ (i 7457).toInt) ∧ ((i 7457).toInt ≤ 1000) := hG.I.1 7457
  refine ft_go mi_k211 4 72 [(0, .ref 116), (1, .int x1), (2, .int 2), (3, .int x3)] [.int 30, .ref 116] i a q r (by rfl) ?_
  refine ko_callN mi_k211.1 (pc := 72) (ls := [(0, .ref 116), (1, .int x1), (2, .int 2), (3, .int x3)]) (st := [.int 30, .ref 116]) (h := ks i a q r) (i := (.invokevirtual 351, 3, 209, 0, 9, 0, 464)) (mi_k211.2 _ _ (by rfl)) (ft_invS mi_pq209 (by rfl)) (cy := mi_c209) mi_pq209 rfl (ke209_116 hG.I hG.R 30 (or40 fi_7457.1 hp2.2)) (by decide) ?_
  intro ig2 ag2 qg2 rg2 kg2 hg2
  have hGg2 := kG_call hG kg2 (by decide +kernel)
  obtain ⟨hg2, og2⟩ := hg2
  have fig2_7457 : ((0 : Int) ≤ (ig2 7457).toInt) ∧ ((ig2 7457).toInt ≤ 1000) := hGg2.I.1 7457
  have z3 : (ig2 7457).toInt = ((i 7457).toInt + 1) := hg2
  have t4 : trS (a 135) (i 7457) (ag2 135) (ig2 7457) [30] := og2
  refine ft_go mi_k211 4 79 [(0, .ref 116), (1, .int x1), (2, .int 2), (3, .int x3)] [.int x3, .int 0, .int x1, .ref 116] ig2 ag2 qg2 rg2 (by rfl) ?_
  have r5 : ((0 : Int) ≤ ((ag2 134).getD x1.toNatClampNeg 0).toInt) ∧ (((ag2 134).getD x1.toNatClampNeg 0).toInt ≤ 7) := hGg2.I.2.2.1 134 (x1.toNatClampNeg)
  have u6 : ((ag2 134).getD x1.toNatClampNeg 0).toInt = ((a 134).getD x1.toNatClampNeg 0).toInt := congrArg (fun z : List Int32 => (z.getD x1.toNatClampNeg 0).toInt) (kg2.fa 134 rfl)
  refine ko_callI mi_k211.1 (pc := 79) (ls := [(0, .ref 116), (1, .int x1), (2, .int 2), (3, .int x3)]) (st := [.int x3, .int 0, .int x1, .ref 116]) (h := ks ig2 ag2 qg2 rg2) (i := (.invokevirtual 360, 3, 211, 0, 9, 0, 466)) (mi_k211.2 _ _ (by rfl)) (ft_invS mi_pq211 (by rfl)) (cy := mi_c211) mi_pq211 rfl (ke211_116_l10_K5 hGg2.I hGg2.R x1 x3 (or25 hp0.1 hp0.2) (or84 hp1 u6) (or41 fig2_7457.1 hp2.2 z3)) (by decide) ?_
  intro vg7 ig7 ag7 qg7 rg7 kg7 hg7
  have hGg7 := kG_call hGg2 kg7 (by decide +kernel)
  obtain ⟨hg7, og7⟩ := hg7
  have fig7_7457 : ((0 : Int) ≤ (ig7 7457).toInt) ∧ ((ig7 7457).toInt ≤ 1000) := hGg7.I.1 7457
  have z8 : (ig7 7457).toInt = ((ig2 7457).toInt + 2) := hg7
  have q9 : vg7 = av0_1_5 x1 x3 := og7.1
  have t10 : trS (ag2 135) (ig2 7457) (ag7 135) (ig7 7457) [10, 1] := og7.2
  refine ft_go mi_k211 1 83 [(0, .ref 116), (1, .int x1), (2, .int 2), (3, .int x3)] [.int (-vg7)] ig7 ag7 qg7 rg7 (by rfl) ?_
  exact ft_ret mi_k211 (by rfl) (hP (-vg7) _ _ _ _ hGg7 ⟨(or42 z3 z8), ⟨(show (-vg7) = av2_1_5 x1 x3 from congrArg (fun z0_ => (-z0_)) q9), (tr_app (es := [30, 10, 1]) t4 t10 (by rfl))⟩⟩)
def yw211_116_l13_K5 : kW := ([7457], [135], [], [])
set_option maxRecDepth 100000 in
theorem ke211_116_l13_K5 {i : Nat → Int32} {a : Nat → List Int32} {q : Nat → List Int64} {r : Nat → Nat} (hI : kI i a q) (hr : kr r) (x1 : Int32) (x3 : Int32) (hp0 : ((0 : Int) ≤ x1.toInt) ∧ (x1.toInt ≤ 49)) (hp1 : ((a 134).getD x1.toNatClampNeg 0).toInt = 5) (hp2 : ((0 : Int) ≤ (i 7457).toInt) ∧ (((i 7457).toInt + 4) ≤ 900)) : km 15 211 [.ref 116, .int x1, .int 3, .int x3] (ks i a q r) (kVI yw211_116_l13_K5 i a q r (fun v i1 a1 q1 r1 => ((i1 7457).toInt = ((i 7457).toInt + 4)) ∧ (v = av3_1_5 x1 x3 ∧ trS (a 135) (i 7457) (a1 135) (i1 7457) [41, 30, 10, 1]))) := by
  have hG := kG_self yw211_116_l13_K5 hI hr
  refine km_ofI (q := (mi_h211, mi_c211)) rfl (by decide) (Nat.le_of_ble_eq_true rfl) ?_
  intro P hP
  have r1 : ((0 : Int) ≤ ((a 134).getD x1.toNatClampNeg 0).toInt) ∧ (((a 134).getD x1.toNatClampNeg 0).toInt ≤ 7) := hG.I.2.2.1 134 (x1.toNatClampNeg)
  have fi_7457 : ((0 : Int) ≤ (i 7457).toInt) ∧ ((i 7457).toInt ≤ 1000) := hG.I.1 7457
  refine ft_go mi_k211 4 87 [(0, .ref 116), (1, .int x1), (2, .int 3), (3, .int x3)] [.int 41, .ref 116] i a q r (by rfl) ?_
  refine ko_callN mi_k211.1 (pc := 87) (ls := [(0, .ref 116), (1, .int x1), (2, .int 3), (3, .int x3)]) (st := [.int 41, .ref 116]) (h := ks i a q r) (i := (.invokevirtual 351, 3, 209, 0, 9, 0, 464)) (mi_k211.2 _ _ (by rfl)) (ft_invS mi_pq209 (by rfl)) (cy := mi_c209) mi_pq209 rfl (ke209_116 hG.I hG.R 41 (or19 fi_7457.1 hp2.2)) (by decide) ?_
  intro ig2 ag2 qg2 rg2 kg2 hg2
  have hGg2 := kG_call hG kg2 (by decide +kernel)
  obtain ⟨hg2, og2⟩ := hg2
  have fig2_7457 : ((0 : Int) ≤ (ig2 7457).toInt) ∧ ((ig2 7457).toInt ≤ 1000) := hGg2.I.1 7457
  have z3 : (ig2 7457).toInt = ((i 7457).toInt + 1) := hg2
  have t4 : trS (a 135) (i 7457) (ag2 135) (ig2 7457) [41] := og2
  have b5 : ((-2147483648 : Int) ≤ x3.toInt) ∧ (x3.toInt ≤ 2147483647) := kd_bd x3
  refine ft_go mi_k211 6 96 [(0, .ref 116), (1, .int x1), (2, .int 3), (3, .int x3)] [.int (x3 + 1), .int 2, .int x1, .ref 116] ig2 ag2 qg2 rg2 (by rfl) ?_
  have r6 : ((0 : Int) ≤ ((ag2 134).getD x1.toNatClampNeg 0).toInt) ∧ (((ag2 134).getD x1.toNatClampNeg 0).toInt ≤ 7) := hGg2.I.2.2.1 134 (x1.toNatClampNeg)
  have u7 : ((ag2 134).getD x1.toNatClampNeg 0).toInt = ((a 134).getD x1.toNatClampNeg 0).toInt := congrArg (fun z : List Int32 => (z.getD x1.toNatClampNeg 0).toInt) (kg2.fa 134 rfl)
  refine ko_callI mi_k211.1 (pc := 96) (ls := [(0, .ref 116), (1, .int x1), (2, .int 3), (3, .int x3)]) (st := [.int (x3 + 1), .int 2, .int x1, .ref 116]) (h := ks ig2 ag2 qg2 rg2) (i := (.invokevirtual 360, 3, 211, 0, 9, 0, 466)) (mi_k211.2 _ _ (by rfl)) (ft_invS mi_pq211 (by rfl)) (cy := mi_c211) mi_pq211 rfl (ke211_116_l12_K5 hGg2.I hGg2.R x1 (x3 + 1) (or25 hp0.1 hp0.2) (or84 hp1 u7) (or60 fig2_7457.1 hp2.2 z3)) (by decide) ?_
  intro vg8 ig8 ag8 qg8 rg8 kg8 hg8
  have hGg8 := kG_call hGg2 kg8 (by decide +kernel)
  obtain ⟨hg8, og8⟩ := hg8
  have fig8_7457 : ((0 : Int) ≤ (ig8 7457).toInt) ∧ ((ig8 7457).toInt ≤ 1000) := hGg8.I.1 7457
  have z9 : (ig8 7457).toInt = ((ig2 7457).toInt + 3) := hg8
  have q10 : vg8 = av2_1_5 x1 (x3 + 1) := og8.1
  have t11 : trS (ag2 135) (ig2 7457) (ag8 135) (ig8 7457) [30, 10, 1] := og8.2
  exact ft_ret mi_k211 (by rfl) (hP vg8 _ _ _ _ hGg8 ⟨(or61 z3 z9), ⟨(show vg8 = av3_1_5 x1 x3 from congrArg (fun z0_ => z0_) q10), (tr_app (es := [41, 30, 10, 1]) t4 t11 (by rfl))⟩⟩)
def yw211_116_l15_K5 : kW := ([7457], [135], [], [])
set_option maxRecDepth 100000 in
theorem ke211_116_l15_K5 {i : Nat → Int32} {a : Nat → List Int32} {q : Nat → List Int64} {r : Nat → Nat} (hI : kI i a q) (hr : kr r) (x1 : Int32) (x3 : Int32) (hp0 : ((0 : Int) ≤ x1.toInt) ∧ (x1.toInt ≤ 49)) (hp1 : ((a 134).getD x1.toNatClampNeg 0).toInt = 5) (hp2 : ((0 : Int) ≤ (i 7457).toInt) ∧ (((i 7457).toInt + 4) ≤ 900)) : km 17 211 [.ref 116, .int x1, .int 5, .int x3] (ks i a q r) (kVI yw211_116_l15_K5 i a q r (fun v i1 a1 q1 r1 => ((i1 7457).toInt = ((i 7457).toInt + 4)) ∧ (v = av3_1_5 x1 x3 ∧ trS (a 135) (i 7457) (a1 135) (i1 7457) [41, 30, 10, 1]))) := by
  have hG := kG_self yw211_116_l15_K5 hI hr
  refine km_ofI (q := (mi_h211, mi_c211)) rfl (by decide) (Nat.le_of_ble_eq_true rfl) ?_
  intro P hP
  have r1 : ((0 : Int) ≤ ((a 134).getD x1.toNatClampNeg 0).toInt) ∧ (((a 134).getD x1.toNatClampNeg 0).toInt ≤ 7) := hG.I.2.2.1 134 (x1.toNatClampNeg)
  have fi_7457 : ((0 : Int) ≤ (i 7457).toInt) ∧ ((i 7457).toInt ≤ 1000) := hG.I.1 7457
  refine ft_go mi_k211 5 134 [(0, .ref 116), (1, .int x1), (2, .int 5), (3, .int x3)] [.int 5, .int x1, .ref 116] i a q r (by rfl) ?_
  refine ko_callPI mi_k211.1 (pc := 134) (ls := [(0, .ref 116), (1, .int x1), (2, .int 5), (3, .int x3)]) (st := [.int 5, .int x1, .ref 116]) (h := ks i a q r) (i := (.invokestatic 357, 3, 208, 0, 9, 0, 465)) (mi_k211.2 _ _ (by rfl)) (ft_invS mi_pq208 (by rfl)) (cy := mi_c208) mi_pq208 rfl (kc208_l05 hG.I hG.R ) (by decide) ?_
  intro vg2 hg2
  have z3 : vg2.toInt = 3 := hg2
  have evvg2 := kj_eq (or59 z3) (by decide : (3 : Int32).toInt = 3)
  subst evvg2
  refine ft_go mi_k211 1 138 [(0, .ref 116), (1, .int x1), (2, .int 5), (3, .int x3)] [.int x3, .int 3, .int x1, .ref 116] i a q r (by rfl) ?_
  refine ko_callI mi_k211.1 (pc := 138) (ls := [(0, .ref 116), (1, .int x1), (2, .int 5), (3, .int x3)]) (st := [.int x3, .int 3, .int x1, .ref 116]) (h := ks i a q r) (i := (.invokevirtual 360, 3, 211, 0, 9, 0, 466)) (mi_k211.2 _ _ (by rfl)) (ft_invS mi_pq211 (by rfl)) (cy := mi_c211) mi_pq211 rfl (ke211_116_l13_K5 hG.I hG.R x1 x3 (or25 hp0.1 hp0.2) (or85 hp1) (or86 fi_7457.1 hp2.2)) (by decide) ?_
  intro vg4 ig4 ag4 qg4 rg4 kg4 hg4
  have hGg4 := kG_call hG kg4 (by decide +kernel)
  obtain ⟨hg4, og4⟩ := hg4
  have fig4_7457 : ((0 : Int) ≤ (ig4 7457).toInt) ∧ ((ig4 7457).toInt ≤ 1000) := hGg4.I.1 7457
  have z5 : (ig4 7457).toInt = ((i 7457).toInt + 4) := hg4
  have q6 : vg4 = av3_1_5 x1 x3 := og4.1
  have t7 : trS (a 135) (i 7457) (ag4 135) (ig4 7457) [41, 30, 10, 1] := og4.2
  exact ft_ret mi_k211 (by rfl) (hP vg4 _ _ _ _ hGg4 ⟨(or87 z5), ⟨(show vg4 = av3_1_5 x1 x3 from congrArg (fun z0_ => z0_) q6), t7⟩⟩)
def yw212_116_l10_K5 : kW := ([7457], [135], [], [])
set_option maxRecDepth 100000 in
theorem ke212_116_l10_K5 {i : Nat → Int32} {a : Nat → List Int32} {q : Nat → List Int64} {r : Nat → Nat} (hI : kI i a q) (hr : kr r) (x1 : Int32) (x3 : Int32) (hp0 : ((0 : Int) ≤ x1.toInt) ∧ (x1.toInt ≤ 49)) (hp1 : ((a 134).getD x1.toNatClampNeg 0).toInt = 5) (hp2 : ((0 : Int) ≤ (i 7457).toInt) ∧ (((i 7457).toInt + 1) ≤ 900)) : km 3 212 [.ref 116, .int x1, .int 0, .int x3] (ks i a q r) (kVI yw212_116_l10_K5 i a q r (fun v i1 a1 q1 r1 => ((i1 7457).toInt = ((i 7457).toInt + 1)) ∧ (v = av0_2_5 x1 x3 ∧ trS (a 135) (i 7457) (a1 135) (i1 7457) [11]))) := by
  have hG := kG_self yw212_116_l10_K5 hI hr
  refine km_ofI (q := (mi_h212, mi_c212)) rfl (by decide) (Nat.le_of_ble_eq_true rfl) ?_
  intro P hP
  have r1 : ((0 : Int) ≤ ((a 134).getD x1.toNatClampNeg 0).toInt) ∧ (((a 134).getD x1.toNatClampNeg 0).toInt ≤ 7) := hG.I.2.2.1 134 (x1.toNatClampNeg)
  have fi_7457 : ((0 : Int) ≤ (i 7457).toInt) ∧ ((i 7457).toInt ≤ 1000) := hG.I.1 7457
  refine ft_go mi_k212 4 39 [(0, .ref 116), (1, .int x1), (2, .int 0), (3, .int x3)] [.int 11, .ref 116] i a q r (by rfl) ?_
  refine ko_callN mi_k212.1 (pc := 39) (ls := [(0, .ref 116), (1, .int x1), (2, .int 0), (3, .int x3)]) (st := [.int 11, .ref 116]) (h := ks i a q r) (i := (.invokevirtual 351, 3, 209, 0, 9, 0, 464)) (mi_k212.2 _ _ (by rfl)) (ft_invS mi_pq209 (by rfl)) (cy := mi_c209) mi_pq209 rfl (ke209_116 hG.I hG.R 11 (or23 fi_7457.1 hp2.2)) (by decide) ?_
  intro ig2 ag2 qg2 rg2 kg2 hg2
  have hGg2 := kG_call hG kg2 (by decide +kernel)
  obtain ⟨hg2, og2⟩ := hg2
  have fig2_7457 : ((0 : Int) ≤ (ig2 7457).toInt) ∧ ((ig2 7457).toInt ≤ 1000) := hGg2.I.1 7457
  have z3 : (ig2 7457).toInt = ((i 7457).toInt + 1) := hg2
  have t4 : trS (a 135) (i 7457) (ag2 135) (ig2 7457) [11] := og2
  refine ft_go mi_k212 3 45 [(0, .ref 116), (1, .int x1), (2, .int 0), (3, .int x3)] [.int (x3 ^^^ x1)] ig2 ag2 qg2 rg2 (by rfl) ?_
  exact ft_ret mi_k212 (by rfl) (hP (x3 ^^^ x1) _ _ _ _ hGg2 ⟨(or24 z3), ⟨(show (x3 ^^^ x1) = av0_2_5 x1 x3 from rfl), t4⟩⟩)
def yw212_116_l12_K5 : kW := ([7457], [135], [], [])
set_option maxRecDepth 100000 in
theorem ke212_116_l12_K5 {i : Nat → Int32} {a : Nat → List Int32} {q : Nat → List Int64} {r : Nat → Nat} (hI : kI i a q) (hr : kr r) (x1 : Int32) (x3 : Int32) (hp0 : ((0 : Int) ≤ x1.toInt) ∧ (x1.toInt ≤ 49)) (hp1 : ((a 134).getD x1.toNatClampNeg 0).toInt = 5) (hp2 : ((0 : Int) ≤ (i 7457).toInt) ∧ (((i 7457).toInt + 1) ≤ 900)) : km 5 212 [.ref 116, .int x1, .int 2, .int x3] (ks i a q r) (kVI yw212_116_l12_K5 i a q r (fun v i1 a1 q1 r1 => ((i1 7457).toInt = ((i 7457).toInt + 1)) ∧ (v = av0_2_5 x1 x3 ∧ trS (a 135) (i 7457) (a1 135) (i1 7457) [11]))) := by
  have hG := kG_self yw212_116_l12_K5 hI hr
  refine km_ofI (q := (mi_h212, mi_c212)) rfl (by decide) (Nat.le_of_ble_eq_true rfl) ?_
  intro P hP
  have r1 : ((0 : Int) ≤ ((a 134).getD x1.toNatClampNeg 0).toInt) ∧ (((a 134).getD x1.toNatClampNeg 0).toInt ≤ 7) := hG.I.2.2.1 134 (x1.toNatClampNeg)
  have fi_7457 : ((0 : Int) ≤ (i 7457).toInt) ∧ ((i 7457).toInt ≤ 1000) := hG.I.1 7457
  refine ft_go mi_k212 5 96 [(0, .ref 116), (1, .int x1), (2, .int 2), (3, .int x3)] [.int 2, .int x1, .ref 116] i a q r (by rfl) ?_
  refine ko_callPI mi_k212.1 (pc := 96) (ls := [(0, .ref 116), (1, .int x1), (2, .int 2), (3, .int x3)]) (st := [.int 2, .int x1, .ref 116]) (h := ks i a q r) (i := (.invokestatic 357, 3, 208, 0, 9, 0, 465)) (mi_k212.2 _ _ (by rfl)) (ft_invS mi_pq208 (by rfl)) (cy := mi_c208) mi_pq208 rfl (kc208_l02 hG.I hG.R ) (by decide) ?_
  intro vg2 hg2
  have z3 : vg2.toInt = 0 := hg2
  have evvg2 := kj_eq (or37 z3) (by decide : (0 : Int32).toInt = 0)
  subst evvg2
  refine ft_go mi_k212 1 100 [(0, .ref 116), (1, .int x1), (2, .int 2), (3, .int x3)] [.int x3, .int 0, .int x1, .ref 116] i a q r (by rfl) ?_
  refine ko_callI mi_k212.1 (pc := 100) (ls := [(0, .ref 116), (1, .int x1), (2, .int 2), (3, .int x3)]) (st := [.int x3, .int 0, .int x1, .ref 116]) (h := ks i a q r) (i := (.invokevirtual 363, 3, 212, 0, 9, 0, 467)) (mi_k212.2 _ _ (by rfl)) (ft_invS mi_pq212 (by rfl)) (cy := mi_c212) mi_pq212 rfl (ke212_116_l10_K5 hG.I hG.R x1 x3 (or25 hp0.1 hp0.2) (or85 hp1) (or48 fi_7457.1 hp2.2)) (by decide) ?_
  intro vg4 ig4 ag4 qg4 rg4 kg4 hg4
  have hGg4 := kG_call hG kg4 (by decide +kernel)
  obtain ⟨hg4, og4⟩ := hg4
  have fig4_7457 : ((0 : Int) ≤ (ig4 7457).toInt) ∧ ((ig4 7457).toInt ≤ 1000) := hGg4.I.1 7457
  have z5 : (ig4 7457).toInt = ((i 7457).toInt + 1) := hg4
  have q6 : vg4 = av0_2_5 x1 x3 := og4.1
  have t7 : trS (a 135) (i 7457) (ag4 135) (ig4 7457) [11] := og4.2
  exact ft_ret mi_k212 (by rfl) (hP vg4 _ _ _ _ hGg4 ⟨(or24 z5), ⟨(show vg4 = av0_2_5 x1 x3 from congrArg (fun z0_ => z0_) q6), t7⟩⟩)
def yw212_116_l13_K5 : kW := ([7457], [135], [], [])
set_option maxRecDepth 100000 in
theorem ke212_116_l13_K5 {i : Nat → Int32} {a : Nat → List Int32} {q : Nat → List Int64} {r : Nat → Nat} (hI : kI i a q) (hr : kr r) (x1 : Int32) (x3 : Int32) (hp0 : ((0 : Int) ≤ x1.toInt) ∧ (x1.toInt ≤ 49)) (hp1 : ((a 134).getD x1.toNatClampNeg 0).toInt = 5) (hp2 : ((0 : Int) ≤ (i 7457).toInt) ∧ (((i 7457).toInt + 2) ≤ 900)) : km 7 212 [.ref 116, .int x1, .int 3, .int x3] (ks i a q r) (kVI yw212_116_l13_K5 i a q r (fun v i1 a1 q1 r1 => ((i1 7457).toInt = ((i 7457).toInt + 2)) ∧ (v = av3_2_5 x1 x3 ∧ trS (a 135) (i 7457) (a1 135) (i1 7457) [40, 11]))) := by
  have hG := kG_self yw212_116_l13_K5 hI hr
  refine km_ofI (q := (mi_h212, mi_c212)) rfl (by decide) (Nat.le_of_ble_eq_true rfl) ?_
  intro P hP
  have r1 : ((0 : Int) ≤ ((a 134).getD x1.toNatClampNeg 0).toInt) ∧ (((a 134).getD x1.toNatClampNeg 0).toInt ≤ 7) := hG.I.2.2.1 134 (x1.toNatClampNeg)
  have fi_7457 : ((0 : Int) ≤ (i 7457).toInt) ∧ ((i 7457).toInt ≤ 1000) := hG.I.1 7457
  refine ft_go mi_k212 4 49 [(0, .ref 116), (1, .int x1), (2, .int 3), (3, .int x3)] [.int 40, .ref 116] i a q r (by rfl) ?_
  refine ko_callN mi_k212.1 (pc := 49) (ls := [(0, .ref 116), (1, .int x1), (2, .int 3), (3, .int x3)]) (st := [.int 40, .ref 116]) (h := ks i a q r) (i := (.invokevirtual 351, 3, 209, 0, 9, 0, 464)) (mi_k212.2 _ _ (by rfl)) (ft_invS mi_pq209 (by rfl)) (cy := mi_c209) mi_pq209 rfl (ke209_116 hG.I hG.R 40 (or22 fi_7457.1 hp2.2)) (by decide) ?_
  intro ig2 ag2 qg2 rg2 kg2 hg2
  have hGg2 := kG_call hG kg2 (by decide +kernel)
  obtain ⟨hg2, og2⟩ := hg2
  have fig2_7457 : ((0 : Int) ≤ (ig2 7457).toInt) ∧ ((ig2 7457).toInt ≤ 1000) := hGg2.I.1 7457
  have z3 : (ig2 7457).toInt = ((i 7457).toInt + 1) := hg2
  have t4 : trS (a 135) (i 7457) (ag2 135) (ig2 7457) [40] := og2
  refine ft_go mi_k212 4 56 [(0, .ref 116), (1, .int x1), (2, .int 3), (3, .int x3)] [.int x3, .int 2, .int x1, .ref 116] ig2 ag2 qg2 rg2 (by rfl) ?_
  have r5 : ((0 : Int) ≤ ((ag2 134).getD x1.toNatClampNeg 0).toInt) ∧ (((ag2 134).getD x1.toNatClampNeg 0).toInt ≤ 7) := hGg2.I.2.2.1 134 (x1.toNatClampNeg)
  have u6 : ((ag2 134).getD x1.toNatClampNeg 0).toInt = ((a 134).getD x1.toNatClampNeg 0).toInt := congrArg (fun z : List Int32 => (z.getD x1.toNatClampNeg 0).toInt) (kg2.fa 134 rfl)
  refine ko_callI mi_k212.1 (pc := 56) (ls := [(0, .ref 116), (1, .int x1), (2, .int 3), (3, .int x3)]) (st := [.int x3, .int 2, .int x1, .ref 116]) (h := ks ig2 ag2 qg2 rg2) (i := (.invokevirtual 363, 3, 212, 0, 9, 0, 467)) (mi_k212.2 _ _ (by rfl)) (ft_invS mi_pq212 (by rfl)) (cy := mi_c212) mi_pq212 rfl (ke212_116_l12_K5 hGg2.I hGg2.R x1 x3 (or25 hp0.1 hp0.2) (or84 hp1 u6) (or26 fig2_7457.1 hp2.2 z3)) (by decide) ?_
  intro vg7 ig7 ag7 qg7 rg7 kg7 hg7
  have hGg7 := kG_call hGg2 kg7 (by decide +kernel)
  obtain ⟨hg7, og7⟩ := hg7
  have fig7_7457 : ((0 : Int) ≤ (ig7 7457).toInt) ∧ ((ig7 7457).toInt ≤ 1000) := hGg7.I.1 7457
  have z8 : (ig7 7457).toInt = ((ig2 7457).toInt + 1) := hg7
  have q9 : vg7 = av0_2_5 x1 x3 := og7.1
  have t10 : trS (ag2 135) (ig2 7457) (ag7 135) (ig7 7457) [11] := og7.2
  have b11 : ((-2147483648 : Int) ≤ vg7.toInt) ∧ (vg7.toInt ≤ 2147483647) := kd_bd vg7
  refine ft_go mi_k212 2 61 [(0, .ref 116), (1, .int x1), (2, .int 3), (3, .int x3)] [.int (vg7 * 3)] ig7 ag7 qg7 rg7 (by rfl) ?_
  exact ft_ret mi_k212 (by rfl) (hP (vg7 * 3) _ _ _ _ hGg7 ⟨(or27 z3 z8), ⟨(show (vg7 * 3) = av3_2_5 x1 x3 from congrArg (fun z0_ => (z0_ * 3)) q9), (tr_app (es := [40, 11]) t4 t10 (by rfl))⟩⟩)
def yw212_116_l15_K5 : kW := ([7457], [135], [], [])
set_option maxRecDepth 100000 in
theorem ke212_116_l15_K5 {i : Nat → Int32} {a : Nat → List Int32} {q : Nat → List Int64} {r : Nat → Nat} (hI : kI i a q) (hr : kr r) (x1 : Int32) (x3 : Int32) (hp0 : ((0 : Int) ≤ x1.toInt) ∧ (x1.toInt ≤ 49)) (hp1 : ((a 134).getD x1.toNatClampNeg 0).toInt = 5) (hp2 : ((0 : Int) ≤ (i 7457).toInt) ∧ (((i 7457).toInt + 2) ≤ 900)) : km 9 212 [.ref 116, .int x1, .int 5, .int x3] (ks i a q r) (kVI yw212_116_l15_K5 i a q r (fun v i1 a1 q1 r1 => ((i1 7457).toInt = ((i 7457).toInt + 2)) ∧ (v = av3_2_5 x1 x3 ∧ trS (a 135) (i 7457) (a1 135) (i1 7457) [40, 11]))) := by
  have hG := kG_self yw212_116_l15_K5 hI hr
  refine km_ofI (q := (mi_h212, mi_c212)) rfl (by decide) (Nat.le_of_ble_eq_true rfl) ?_
  intro P hP
  have r1 : ((0 : Int) ≤ ((a 134).getD x1.toNatClampNeg 0).toInt) ∧ (((a 134).getD x1.toNatClampNeg 0).toInt ≤ 7) := hG.I.2.2.1 134 (x1.toNatClampNeg)
  have fi_7457 : ((0 : Int) ≤ (i 7457).toInt) ∧ ((i 7457).toInt ≤ 1000) := hG.I.1 7457
  refine ft_go mi_k212 5 96 [(0, .ref 116), (1, .int x1), (2, .int 5), (3, .int x3)] [.int 5, .int x1, .ref 116] i a q r (by rfl) ?_
  refine ko_callPI mi_k212.1 (pc := 96) (ls := [(0, .ref 116), (1, .int x1), (2, .int 5), (3, .int x3)]) (st := [.int 5, .int x1, .ref 116]) (h := ks i a q r) (i := (.invokestatic 357, 3, 208, 0, 9, 0, 465)) (mi_k212.2 _ _ (by rfl)) (ft_invS mi_pq208 (by rfl)) (cy := mi_c208) mi_pq208 rfl (kc208_l05 hG.I hG.R ) (by decide) ?_
  intro vg2 hg2
  have z3 : vg2.toInt = 3 := hg2
  have evvg2 := kj_eq (or59 z3) (by decide : (3 : Int32).toInt = 3)
  subst evvg2
  refine ft_go mi_k212 1 100 [(0, .ref 116), (1, .int x1), (2, .int 5), (3, .int x3)] [.int x3, .int 3, .int x1, .ref 116] i a q r (by rfl) ?_
  refine ko_callI mi_k212.1 (pc := 100) (ls := [(0, .ref 116), (1, .int x1), (2, .int 5), (3, .int x3)]) (st := [.int x3, .int 3, .int x1, .ref 116]) (h := ks i a q r) (i := (.invokevirtual 363, 3, 212, 0, 9, 0, 467)) (mi_k212.2 _ _ (by rfl)) (ft_invS mi_pq212 (by rfl)) (cy := mi_c212) mi_pq212 rfl (ke212_116_l13_K5 hG.I hG.R x1 x3 (or25 hp0.1 hp0.2) (or85 hp1) (or72 fi_7457.1 hp2.2)) (by decide) ?_
  intro vg4 ig4 ag4 qg4 rg4 kg4 hg4
  have hGg4 := kG_call hG kg4 (by decide +kernel)
  obtain ⟨hg4, og4⟩ := hg4
  have fig4_7457 : ((0 : Int) ≤ (ig4 7457).toInt) ∧ ((ig4 7457).toInt ≤ 1000) := hGg4.I.1 7457
  have z5 : (ig4 7457).toInt = ((i 7457).toInt + 2) := hg4
  have q6 : vg4 = av3_2_5 x1 x3 := og4.1
  have t7 : trS (a 135) (i 7457) (ag4 135) (ig4 7457) [40, 11] := og4.2
  exact ft_ret mi_k212 (by rfl) (hP vg4 _ _ _ _ hGg4 ⟨(or73 z5), ⟨(show vg4 = av3_2_5 x1 x3 from congrArg (fun z0_ => z0_) q6), t7⟩⟩)
def yw213_116_l10_K5 : kW := ([7457], [135], [], [])
set_option maxRecDepth 100000 in
theorem ke213_116_l10_K5 {i : Nat → Int32} {a : Nat → List Int32} {q : Nat → List Int64} {r : Nat → Nat} (hI : kI i a q) (hr : kr r) (x1 : Int32) (x3 : Int32) (hp0 : ((0 : Int) ≤ x1.toInt) ∧ (x1.toInt ≤ 49)) (hp1 : ((a 134).getD x1.toNatClampNeg 0).toInt = 5) (hp2 : ((0 : Int) ≤ (i 7457).toInt) ∧ (((i 7457).toInt + 7) ≤ 900)) : km 19 213 [.ref 116, .int x1, .int 0, .int x3] (ks i a q r) (kVI yw213_116_l10_K5 i a q r (fun v i1 a1 q1 r1 => ((i1 7457).toInt = ((i 7457).toInt + 7)) ∧ (v = av0_3_5 x1 x3 ∧ trS (a 135) (i 7457) (a1 135) (i1 7457) [2, 41, 30, 10, 1, 40, 11]))) := by
  have hG := kG_self yw213_116_l10_K5 hI hr
  refine km_ofI (q := (mi_h213, mi_c213)) rfl (by decide) (Nat.le_of_ble_eq_true rfl) ?_
  intro P hP
  have r1 : ((0 : Int) ≤ ((a 134).getD x1.toNatClampNeg 0).toInt) ∧ (((a 134).getD x1.toNatClampNeg 0).toInt ≤ 7) := hG.I.2.2.1 134 (x1.toNatClampNeg)
  have fi_7457 : ((0 : Int) ≤ (i 7457).toInt) ∧ ((i 7457).toInt ≤ 1000) := hG.I.1 7457
  refine ft_go mi_k213 4 38 [(0, .ref 116), (1, .int x1), (2, .int 0), (3, .int x3)] [.int 2, .ref 116] i a q r (by rfl) ?_
  refine ko_callN mi_k213.1 (pc := 38) (ls := [(0, .ref 116), (1, .int x1), (2, .int 0), (3, .int x3)]) (st := [.int 2, .ref 116]) (h := ks i a q r) (i := (.invokevirtual 351, 3, 209, 0, 9, 0, 464)) (mi_k213.2 _ _ (by rfl)) (ft_invS mi_pq209 (by rfl)) (cy := mi_c209) mi_pq209 rfl (ke209_116 hG.I hG.R 2 (or57 fi_7457.1 hp2.2)) (by decide) ?_
  intro ig2 ag2 qg2 rg2 kg2 hg2
  have hGg2 := kG_call hG kg2 (by decide +kernel)
  obtain ⟨hg2, og2⟩ := hg2
  have fig2_7457 : ((0 : Int) ≤ (ig2 7457).toInt) ∧ ((ig2 7457).toInt ≤ 1000) := hGg2.I.1 7457
  have z3 : (ig2 7457).toInt = ((i 7457).toInt + 1) := hg2
  have t4 : trS (a 135) (i 7457) (ag2 135) (ig2 7457) [2] := og2
  refine ft_go mi_k213 5 48 [(0, .ref 116), (1, .int x1), (2, .int 0), (3, .int x3)] [.int x1, .ref 134, .int x1, .ref 116] ig2 ag2 qg2 rg2 (by rfl) ?_
  refine ko_iald3 mi_k213.1 (n := 50) (c := 50) (ax := (0, 0, 0, 0, 0)) (mi_k213.2 _ _ (by rfl)) (by rfl) (ksG134 _ _ _ _) (hGg2.I.2.1 134) rfl (or14 hp0.1) (or20 hp0.2) ?_
  have r5 : ((0 : Int) ≤ ((ag2 134).getD x1.toNatClampNeg 0).toInt) ∧ (((ag2 134).getD x1.toNatClampNeg 0).toInt ≤ 7) := hGg2.I.2.2.1 134 (x1.toNatClampNeg)
  have u6 : ((ag2 134).getD x1.toNatClampNeg 0).toInt = ((a 134).getD x1.toNatClampNeg 0).toInt := congrArg (fun z : List Int32 => (z.getD x1.toNatClampNeg 0).toInt) (kg2.fa 134 rfl)
  refine ko_eq (x1 := (49, [(0, .ref 116), (1, .int x1), (2, .int 0), (3, .int x3)], [.int 5, .int x1, .ref 116], (0, 0), ks ig2 ag2 qg2 rg2)) (by rw [(kj_eq (or84 hp1 u6) (by decide) : ((ag2 134).getD x1.toNatClampNeg 0) = 5)]) ?_
  refine ft_go mi_k213 1 50 [(0, .ref 116), (1, .int x1), (2, .int 0), (3, .int x3)] [.int x3, .int 5, .int x1, .ref 116] ig2 ag2 qg2 rg2 (by rfl) ?_
  refine ko_callI mi_k213.1 (pc := 50) (ls := [(0, .ref 116), (1, .int x1), (2, .int 0), (3, .int x3)]) (st := [.int x3, .int 5, .int x1, .ref 116]) (h := ks ig2 ag2 qg2 rg2) (i := (.invokevirtual 360, 3, 211, 0, 9, 0, 466)) (mi_k213.2 _ _ (by rfl)) (ft_invS mi_pq211 (by rfl)) (cy := mi_c211) mi_pq211 rfl (ke211_116_l15_K5 hGg2.I hGg2.R x1 x3 (or25 hp0.1 hp0.2) (or84 hp1 u6) (or62 fig2_7457.1 hp2.2 z3)) (by decide) ?_
  intro vg7 ig7 ag7 qg7 rg7 kg7 hg7
  have hGg7 := kG_call hGg2 kg7 (by decide +kernel)
  obtain ⟨hg7, og7⟩ := hg7
  have fig7_7457 : ((0 : Int) ≤ (ig7 7457).toInt) ∧ ((ig7 7457).toInt ≤ 1000) := hGg7.I.1 7457
  have z8 : (ig7 7457).toInt = ((ig2 7457).toInt + 4) := hg7
  have q9 : vg7 = av3_1_5 x1 x3 := og7.1
  have t10 : trS (ag2 135) (ig2 7457) (ag7 135) (ig7 7457) [41, 30, 10, 1] := og7.2
  refine ft_go mi_k213 7 64 [(4, .int vg7), (0, .ref 116), (1, .int x1), (2, .int 0), (3, .int x3)] [.int x1, .ref 134, .int x1, .ref 116, .int vg7] ig7 ag7 qg7 rg7 (by rfl) ?_
  refine ko_iald3 mi_k213.1 (n := 50) (c := 50) (ax := (0, 0, 0, 0, 0)) (mi_k213.2 _ _ (by rfl)) (by rfl) (ksG134 _ _ _ _) (hGg7.I.2.1 134) rfl (or14 hp0.1) (or20 hp0.2) ?_
  have r11 : ((0 : Int) ≤ ((ag7 134).getD x1.toNatClampNeg 0).toInt) ∧ (((ag7 134).getD x1.toNatClampNeg 0).toInt ≤ 7) := hGg7.I.2.2.1 134 (x1.toNatClampNeg)
  have u12 : ((ag7 134).getD x1.toNatClampNeg 0).toInt = ((ag2 134).getD x1.toNatClampNeg 0).toInt := congrArg (fun z : List Int32 => (z.getD x1.toNatClampNeg 0).toInt) (kg7.fa 134 rfl)
  refine ko_eq (x1 := (65, [(4, .int vg7), (0, .ref 116), (1, .int x1), (2, .int 0), (3, .int x3)], [.int 5, .int x1, .ref 116, .int vg7], (0, 0), ks ig7 ag7 qg7 rg7)) (by rw [(kj_eq (or88 hp1 u12 u6) (by decide) : ((ag7 134).getD x1.toNatClampNeg 0) = 5)]) ?_
  refine ft_go mi_k213 1 66 [(4, .int vg7), (0, .ref 116), (1, .int x1), (2, .int 0), (3, .int x3)] [.int 1, .int 5, .int x1, .ref 116, .int vg7] ig7 ag7 qg7 rg7 (by rfl) ?_
  refine ko_callI mi_k213.1 (pc := 66) (ls := [(4, .int vg7), (0, .ref 116), (1, .int x1), (2, .int 0), (3, .int x3)]) (st := [.int 1, .int 5, .int x1, .ref 116, .int vg7]) (h := ks ig7 ag7 qg7 rg7) (i := (.invokevirtual 363, 3, 212, 0, 9, 0, 467)) (mi_k213.2 _ _ (by rfl)) (ft_invS mi_pq212 (by rfl)) (cy := mi_c212) mi_pq212 rfl (ke212_116_l15_K5 hGg7.I hGg7.R x1 1 (or25 hp0.1 hp0.2) (or88 hp1 u12 u6) (or64 fig7_7457.1 hp2.2 z3 z8)) (by decide) ?_
  intro vg13 ig13 ag13 qg13 rg13 kg13 hg13
  have hGg13 := kG_call hGg7 kg13 (by decide +kernel)
  obtain ⟨hg13, og13⟩ := hg13
  have fig13_7457 : ((0 : Int) ≤ (ig13 7457).toInt) ∧ ((ig13 7457).toInt ≤ 1000) := hGg13.I.1 7457
  have z14 : (ig13 7457).toInt = ((ig7 7457).toInt + 2) := hg13
  have q15 : vg13 = av3_2_5 x1 (1 : Int32) := og13.1
  have t16 : trS (ag7 135) (ig7 7457) (ag13 135) (ig13 7457) [40, 11] := og13.2
  have b17 : ((-2147483648 : Int) ≤ vg7.toInt) ∧ (vg7.toInt ≤ 2147483647) := kd_bd vg7
  have b18 : ((-2147483648 : Int) ≤ vg13.toInt) ∧ (vg13.toInt ≤ 2147483647) := kd_bd vg13
  refine ft_go mi_k213 1 70 [(4, .int vg7), (0, .ref 116), (1, .int x1), (2, .int 0), (3, .int x3)] [.int (vg7 - vg13)] ig13 ag13 qg13 rg13 (by rfl) ?_
  exact ft_ret mi_k213 (by rfl) (hP (vg7 - vg13) _ _ _ _ hGg13 ⟨(or65 z14 z3 z8), ⟨(show (vg7 - vg13) = av0_3_5 x1 x3 from by rw [q9, q15]; rfl), (tr_app (es := [2, 41, 30, 10, 1, 40, 11]) (tr_app (es := [2, 41, 30, 10, 1]) t4 t10 (by rfl)) t16 (by rfl))⟩⟩)
def yw213_116_l12_K5 : kW := ([7457], [135], [], [])
set_option maxRecDepth 100000 in
theorem ke213_116_l12_K5 {i : Nat → Int32} {a : Nat → List Int32} {q : Nat → List Int64} {r : Nat → Nat} (hI : kI i a q) (hr : kr r) (x1 : Int32) (x3 : Int32) (hp0 : ((0 : Int) ≤ x1.toInt) ∧ (x1.toInt ≤ 49)) (hp1 : ((a 134).getD x1.toNatClampNeg 0).toInt = 5) (hp2 : ((0 : Int) ≤ (i 7457).toInt) ∧ (((i 7457).toInt + 7) ≤ 900)) : km 21 213 [.ref 116, .int x1, .int 2, .int x3] (ks i a q r) (kVI yw213_116_l12_K5 i a q r (fun v i1 a1 q1 r1 => ((i1 7457).toInt = ((i 7457).toInt + 7)) ∧ (v = av0_3_5 x1 x3 ∧ trS (a 135) (i 7457) (a1 135) (i1 7457) [2, 41, 30, 10, 1, 40, 11]))) := by
  have hG := kG_self yw213_116_l12_K5 hI hr
  refine km_ofI (q := (mi_h213, mi_c213)) rfl (by decide) (Nat.le_of_ble_eq_true rfl) ?_
  intro P hP
  have r1 : ((0 : Int) ≤ ((a 134).getD x1.toNatClampNeg 0).toInt) ∧ (((a 134).getD x1.toNatClampNeg 0).toInt ≤ 7) := hG.I.2.2.1 134 (x1.toNatClampNeg)
  have fi_7457 : ((0 : Int) ≤ (i 7457).toInt) ∧ ((i 7457).toInt ≤ 1000) := hG.I.1 7457
  refine ft_go mi_k213 5 106 [(0, .ref 116), (1, .int x1), (2, .int 2), (3, .int x3)] [.int 2, .int x1, .ref 116] i a q r (by rfl) ?_
  refine ko_callPI mi_k213.1 (pc := 106) (ls := [(0, .ref 116), (1, .int x1), (2, .int 2), (3, .int x3)]) (st := [.int 2, .int x1, .ref 116]) (h := ks i a q r) (i := (.invokestatic 357, 3, 208, 0, 9, 0, 465)) (mi_k213.2 _ _ (by rfl)) (ft_invS mi_pq208 (by rfl)) (cy := mi_c208) mi_pq208 rfl (kc208_l02 hG.I hG.R ) (by decide) ?_
  intro vg2 hg2
  have z3 : vg2.toInt = 0 := hg2
  have evvg2 := kj_eq (or37 z3) (by decide : (0 : Int32).toInt = 0)
  subst evvg2
  refine ft_go mi_k213 1 110 [(0, .ref 116), (1, .int x1), (2, .int 2), (3, .int x3)] [.int x3, .int 0, .int x1, .ref 116] i a q r (by rfl) ?_
  refine ko_callI mi_k213.1 (pc := 110) (ls := [(0, .ref 116), (1, .int x1), (2, .int 2), (3, .int x3)]) (st := [.int x3, .int 0, .int x1, .ref 116]) (h := ks i a q r) (i := (.invokevirtual 366, 3, 213, 0, 9, 0, 468)) (mi_k213.2 _ _ (by rfl)) (ft_invS mi_pq213 (by rfl)) (cy := mi_c213) mi_pq213 rfl (ke213_116_l10_K5 hG.I hG.R x1 x3 (or25 hp0.1 hp0.2) (or85 hp1) (or66 fi_7457.1 hp2.2)) (by decide) ?_
  intro vg4 ig4 ag4 qg4 rg4 kg4 hg4
  have hGg4 := kG_call hG kg4 (by decide +kernel)
  obtain ⟨hg4, og4⟩ := hg4
  have fig4_7457 : ((0 : Int) ≤ (ig4 7457).toInt) ∧ ((ig4 7457).toInt ≤ 1000) := hGg4.I.1 7457
  have z5 : (ig4 7457).toInt = ((i 7457).toInt + 7) := hg4
  have q6 : vg4 = av0_3_5 x1 x3 := og4.1
  have t7 : trS (a 135) (i 7457) (ag4 135) (ig4 7457) [2, 41, 30, 10, 1, 40, 11] := og4.2
  exact ft_ret mi_k213 (by rfl) (hP vg4 _ _ _ _ hGg4 ⟨(or67 z5), ⟨(show vg4 = av0_3_5 x1 x3 from congrArg (fun z0_ => z0_) q6), t7⟩⟩)
def yw213_116_l13_K5 : kW := ([7457], [135], [], [])
set_option maxRecDepth 100000 in
theorem ke213_116_l13_K5 {i : Nat → Int32} {a : Nat → List Int32} {q : Nat → List Int64} {r : Nat → Nat} (hI : kI i a q) (hr : kr r) (x1 : Int32) (x3 : Int32) (hp0 : ((0 : Int) ≤ x1.toInt) ∧ (x1.toInt ≤ 49)) (hp1 : ((a 134).getD x1.toNatClampNeg 0).toInt = 5) (hp2 : ((0 : Int) ≤ (i 7457).toInt) ∧ (((i 7457).toInt + 7) ≤ 900)) : km 23 213 [.ref 116, .int x1, .int 3, .int x3] (ks i a q r) (kVI yw213_116_l13_K5 i a q r (fun v i1 a1 q1 r1 => ((i1 7457).toInt = ((i 7457).toInt + 7)) ∧ (v = av0_3_5 x1 x3 ∧ trS (a 135) (i 7457) (a1 135) (i1 7457) [2, 41, 30, 10, 1, 40, 11]))) := by
  have hG := kG_self yw213_116_l13_K5 hI hr
  refine km_ofI (q := (mi_h213, mi_c213)) rfl (by decide) (Nat.le_of_ble_eq_true rfl) ?_
  intro P hP
  have r1 : ((0 : Int) ≤ ((a 134).getD x1.toNatClampNeg 0).toInt) ∧ (((a 134).getD x1.toNatClampNeg 0).toInt ≤ 7) := hG.I.2.2.1 134 (x1.toNatClampNeg)
  have fi_7457 : ((0 : Int) ≤ (i 7457).toInt) ∧ ((i 7457).toInt ≤ 1000) := hG.I.1 7457
  refine ft_go mi_k213 5 106 [(0, .ref 116), (1, .int x1), (2, .int 3), (3, .int x3)] [.int 3, .int x1, .ref 116] i a q r (by rfl) ?_
  refine ko_callPI mi_k213.1 (pc := 106) (ls := [(0, .ref 116), (1, .int x1), (2, .int 3), (3, .int x3)]) (st := [.int 3, .int x1, .ref 116]) (h := ks i a q r) (i := (.invokestatic 357, 3, 208, 0, 9, 0, 465)) (mi_k213.2 _ _ (by rfl)) (ft_invS mi_pq208 (by rfl)) (cy := mi_c208) mi_pq208 rfl (kc208_l03 hG.I hG.R ) (by decide) ?_
  intro vg2 hg2
  have z3 : vg2.toInt = 2 := hg2
  have evvg2 := kj_eq (or55 z3) (by decide : (2 : Int32).toInt = 2)
  subst evvg2
  refine ft_go mi_k213 1 110 [(0, .ref 116), (1, .int x1), (2, .int 3), (3, .int x3)] [.int x3, .int 2, .int x1, .ref 116] i a q r (by rfl) ?_
  refine ko_callI mi_k213.1 (pc := 110) (ls := [(0, .ref 116), (1, .int x1), (2, .int 3), (3, .int x3)]) (st := [.int x3, .int 2, .int x1, .ref 116]) (h := ks i a q r) (i := (.invokevirtual 366, 3, 213, 0, 9, 0, 468)) (mi_k213.2 _ _ (by rfl)) (ft_invS mi_pq213 (by rfl)) (cy := mi_c213) mi_pq213 rfl (ke213_116_l12_K5 hG.I hG.R x1 x3 (or25 hp0.1 hp0.2) (or85 hp1) (or66 fi_7457.1 hp2.2)) (by decide) ?_
  intro vg4 ig4 ag4 qg4 rg4 kg4 hg4
  have hGg4 := kG_call hG kg4 (by decide +kernel)
  obtain ⟨hg4, og4⟩ := hg4
  have fig4_7457 : ((0 : Int) ≤ (ig4 7457).toInt) ∧ ((ig4 7457).toInt ≤ 1000) := hGg4.I.1 7457
  have z5 : (ig4 7457).toInt = ((i 7457).toInt + 7) := hg4
  have q6 : vg4 = av0_3_5 x1 x3 := og4.1
  have t7 : trS (a 135) (i 7457) (ag4 135) (ig4 7457) [2, 41, 30, 10, 1, 40, 11] := og4.2
  exact ft_ret mi_k213 (by rfl) (hP vg4 _ _ _ _ hGg4 ⟨(or67 z5), ⟨(show vg4 = av0_3_5 x1 x3 from congrArg (fun z0_ => z0_) q6), t7⟩⟩)
def yw213_116_l15_K5 : kW := ([7457], [135], [], [])
set_option maxRecDepth 100000 in
theorem ke213_116_l15_K5 {i : Nat → Int32} {a : Nat → List Int32} {q : Nat → List Int64} {r : Nat → Nat} (hI : kI i a q) (hr : kr r) (x1 : Int32) (x3 : Int32) (hp0 : ((0 : Int) ≤ x1.toInt) ∧ (x1.toInt ≤ 49)) (hp1 : ((a 134).getD x1.toNatClampNeg 0).toInt = 5) (hp2 : ((0 : Int) ≤ (i 7457).toInt) ∧ (((i 7457).toInt + 8) ≤ 900)) : km 25 213 [.ref 116, .int x1, .int 5, .int x3] (ks i a q r) (kVI yw213_116_l15_K5 i a q r (fun v i1 a1 q1 r1 => ((i1 7457).toInt = ((i 7457).toInt + 8)) ∧ (v = av5_3_5 x1 x3 ∧ trS (a 135) (i 7457) (a1 135) (i1 7457) [60, 2, 41, 30, 10, 1, 40, 11]))) := by
  have hG := kG_self yw213_116_l15_K5 hI hr
  refine km_ofI (q := (mi_h213, mi_c213)) rfl (by decide) (Nat.le_of_ble_eq_true rfl) ?_
  intro P hP
  have r1 : ((0 : Int) ≤ ((a 134).getD x1.toNatClampNeg 0).toInt) ∧ (((a 134).getD x1.toNatClampNeg 0).toInt ≤ 7) := hG.I.2.2.1 134 (x1.toNatClampNeg)
  have fi_7457 : ((0 : Int) ≤ (i 7457).toInt) ∧ ((i 7457).toInt ≤ 1000) := hG.I.1 7457
  refine ft_go mi_k213 4 74 [(0, .ref 116), (1, .int x1), (2, .int 5), (3, .int x3)] [.int 60, .ref 116] i a q r (by rfl) ?_
  refine ko_callN mi_k213.1 (pc := 74) (ls := [(0, .ref 116), (1, .int x1), (2, .int 5), (3, .int x3)]) (st := [.int 60, .ref 116]) (h := ks i a q r) (i := (.invokevirtual 351, 3, 209, 0, 9, 0, 464)) (mi_k213.2 _ _ (by rfl)) (ft_invS mi_pq209 (by rfl)) (cy := mi_c209) mi_pq209 rfl (ke209_116 hG.I hG.R 60 (or69 fi_7457.1 hp2.2)) (by decide) ?_
  intro ig2 ag2 qg2 rg2 kg2 hg2
  have hGg2 := kG_call hG kg2 (by decide +kernel)
  obtain ⟨hg2, og2⟩ := hg2
  have fig2_7457 : ((0 : Int) ≤ (ig2 7457).toInt) ∧ ((ig2 7457).toInt ≤ 1000) := hGg2.I.1 7457
  have z3 : (ig2 7457).toInt = ((i 7457).toInt + 1) := hg2
  have t4 : trS (a 135) (i 7457) (ag2 135) (ig2 7457) [60] := og2
  refine ft_go mi_k213 4 81 [(0, .ref 116), (1, .int x1), (2, .int 5), (3, .int x3)] [.int x3, .int 3, .int x1, .ref 116] ig2 ag2 qg2 rg2 (by rfl) ?_
  have r5 : ((0 : Int) ≤ ((ag2 134).getD x1.toNatClampNeg 0).toInt) ∧ (((ag2 134).getD x1.toNatClampNeg 0).toInt ≤ 7) := hGg2.I.2.2.1 134 (x1.toNatClampNeg)
  have u6 : ((ag2 134).getD x1.toNatClampNeg 0).toInt = ((a 134).getD x1.toNatClampNeg 0).toInt := congrArg (fun z : List Int32 => (z.getD x1.toNatClampNeg 0).toInt) (kg2.fa 134 rfl)
  refine ko_callI mi_k213.1 (pc := 81) (ls := [(0, .ref 116), (1, .int x1), (2, .int 5), (3, .int x3)]) (st := [.int x3, .int 3, .int x1, .ref 116]) (h := ks ig2 ag2 qg2 rg2) (i := (.invokevirtual 366, 3, 213, 0, 9, 0, 468)) (mi_k213.2 _ _ (by rfl)) (ft_invS mi_pq213 (by rfl)) (cy := mi_c213) mi_pq213 rfl (ke213_116_l13_K5 hGg2.I hGg2.R x1 x3 (or25 hp0.1 hp0.2) (or84 hp1 u6) (or89 fig2_7457.1 hp2.2 z3)) (by decide) ?_
  intro vg7 ig7 ag7 qg7 rg7 kg7 hg7
  have hGg7 := kG_call hGg2 kg7 (by decide +kernel)
  obtain ⟨hg7, og7⟩ := hg7
  have fig7_7457 : ((0 : Int) ≤ (ig7 7457).toInt) ∧ ((ig7 7457).toInt ≤ 1000) := hGg7.I.1 7457
  have z8 : (ig7 7457).toInt = ((ig2 7457).toInt + 7) := hg7
  have q9 : vg7 = av0_3_5 x1 x3 := og7.1
  have t10 : trS (ag2 135) (ig2 7457) (ag7 135) (ig7 7457) [2, 41, 30, 10, 1, 40, 11] := og7.2
  refine ft_go mi_k213 2 86 [(0, .ref 116), (1, .int x1), (2, .int 5), (3, .int x3)] [.int (vg7 ^^^ 5)] ig7 ag7 qg7 rg7 (by rfl) ?_
  exact ft_ret mi_k213 (by rfl) (hP (vg7 ^^^ 5) _ _ _ _ hGg7 ⟨(or90 z3 z8), ⟨(show (vg7 ^^^ 5) = av5_3_5 x1 x3 from congrArg (fun z0_ => (z0_ ^^^ 5)) q9), (tr_app (es := [60, 2, 41, 30, 10, 1, 40, 11]) t4 t10 (by rfl))⟩⟩)
def yw210_116_l10_K6 : kW := ([7457], [135], [], [])
set_option maxRecDepth 100000 in
theorem ke210_116_l10_K6 {i : Nat → Int32} {a : Nat → List Int32} {q : Nat → List Int64} {r : Nat → Nat} (hI : kI i a q) (hr : kr r) (x1 : Int32) (x3 : Int32) (hp0 : ((0 : Int) ≤ x1.toInt) ∧ (x1.toInt ≤ 49)) (hp1 : ((a 134).getD x1.toNatClampNeg 0).toInt = 6) (hp2 : ((0 : Int) ≤ (i 7457).toInt) ∧ (((i 7457).toInt + 1) ≤ 900)) : km 3 210 [.ref 116, .int x1, .int 0, .int x3] (ks i a q r) (kVI yw210_116_l10_K6 i a q r (fun v i1 a1 q1 r1 => ((i1 7457).toInt = ((i 7457).toInt + 1)) ∧ (v = av0_0_6 x1 x3 ∧ trS (a 135) (i 7457) (a1 135) (i1 7457) [1]))) := by
  have hG := kG_self yw210_116_l10_K6 hI hr
  refine km_ofI (q := (mi_h210, mi_c210)) rfl (by decide) (Nat.le_of_ble_eq_true rfl) ?_
  intro P hP
  have r1 : ((0 : Int) ≤ ((a 134).getD x1.toNatClampNeg 0).toInt) ∧ (((a 134).getD x1.toNatClampNeg 0).toInt ≤ 7) := hG.I.2.2.1 134 (x1.toNatClampNeg)
  have fi_7457 : ((0 : Int) ≤ (i 7457).toInt) ∧ ((i 7457).toInt ≤ 1000) := hG.I.1 7457
  refine ft_go mi_k210 4 38 [(0, .ref 116), (1, .int x1), (2, .int 0), (3, .int x3)] [.int 1, .ref 116] i a q r (by rfl) ?_
  refine ko_callN mi_k210.1 (pc := 38) (ls := [(0, .ref 116), (1, .int x1), (2, .int 0), (3, .int x3)]) (st := [.int 1, .ref 116]) (h := ks i a q r) (i := (.invokevirtual 351, 3, 209, 0, 9, 0, 464)) (mi_k210.2 _ _ (by rfl)) (ft_invS mi_pq209 (by rfl)) (cy := mi_c209) mi_pq209 rfl (ke209_116 hG.I hG.R 1 (or23 fi_7457.1 hp2.2)) (by decide) ?_
  intro ig2 ag2 qg2 rg2 kg2 hg2
  have hGg2 := kG_call hG kg2 (by decide +kernel)
  obtain ⟨hg2, og2⟩ := hg2
  have fig2_7457 : ((0 : Int) ≤ (ig2 7457).toInt) ∧ ((ig2 7457).toInt ≤ 1000) := hGg2.I.1 7457
  have z3 : (ig2 7457).toInt = ((i 7457).toInt + 1) := hg2
  have t4 : trS (a 135) (i 7457) (ag2 135) (ig2 7457) [1] := og2
  have b5 : ((-2147483648 : Int) ≤ x3.toInt) ∧ (x3.toInt ≤ 2147483647) := kd_bd x3
  have b6 : ((-2147483648 : Int) ≤ x1.toInt) ∧ (x1.toInt ≤ 2147483647) := kd_bd x1
  refine ft_go mi_k210 3 44 [(0, .ref 116), (1, .int x1), (2, .int 0), (3, .int x3)] [.int (x3 + x1)] ig2 ag2 qg2 rg2 (by rfl) ?_
  exact ft_ret mi_k210 (by rfl) (hP (x3 + x1) _ _ _ _ hGg2 ⟨(or24 z3), ⟨(show (x3 + x1) = av0_0_6 x1 x3 from rfl), t4⟩⟩)
def yw210_116_l16_K6 : kW := ([7457], [135], [], [])
set_option maxRecDepth 100000 in
theorem ke210_116_l16_K6 {i : Nat → Int32} {a : Nat → List Int32} {q : Nat → List Int64} {r : Nat → Nat} (hI : kI i a q) (hr : kr r) (x1 : Int32) (x3 : Int32) (hp0 : ((0 : Int) ≤ x1.toInt) ∧ (x1.toInt ≤ 49)) (hp1 : ((a 134).getD x1.toNatClampNeg 0).toInt = 6) (hp2 : ((0 : Int) ≤ (i 7457).toInt) ∧ (((i 7457).toInt + 2) ≤ 900)) : km 5 210 [.ref 116, .int x1, .int 6, .int x3] (ks i a q r) (kVI yw210_116_l16_K6 i a q r (fun v i1 a1 q1 r1 => ((i1 7457).toInt = ((i 7457).toInt + 2)) ∧ (v = av6_0_6 x1 x3 ∧ trS (a 135) (i 7457) (a1 135) (i1 7457) [70, 1]))) := by
  have hG := kG_self yw210_116_l16_K6 hI hr
  refine km_ofI (q := (mi_h210, mi_c210)) rfl (by decide) (Nat.le_of_ble_eq_true rfl) ?_
  intro P hP
  have r1 : ((0 : Int) ≤ ((a 134).getD x1.toNatClampNeg 0).toInt) ∧ (((a 134).getD x1.toNatClampNeg 0).toInt ≤ 7) := hG.I.2.2.1 134 (x1.toNatClampNeg)
  have fi_7457 : ((0 : Int) ≤ (i 7457).toInt) ∧ ((i 7457).toInt ≤ 1000) := hG.I.1 7457
  refine ft_go mi_k210 4 64 [(0, .ref 116), (1, .int x1), (2, .int 6), (3, .int x3)] [.int 70, .ref 116] i a q r (by rfl) ?_
  refine ko_callN mi_k210.1 (pc := 64) (ls := [(0, .ref 116), (1, .int x1), (2, .int 6), (3, .int x3)]) (st := [.int 70, .ref 116]) (h := ks i a q r) (i := (.invokevirtual 351, 3, 209, 0, 9, 0, 464)) (mi_k210.2 _ _ (by rfl)) (ft_invS mi_pq209 (by rfl)) (cy := mi_c209) mi_pq209 rfl (ke209_116 hG.I hG.R 70 (or22 fi_7457.1 hp2.2)) (by decide) ?_
  intro ig2 ag2 qg2 rg2 kg2 hg2
  have hGg2 := kG_call hG kg2 (by decide +kernel)
  obtain ⟨hg2, og2⟩ := hg2
  have fig2_7457 : ((0 : Int) ≤ (ig2 7457).toInt) ∧ ((ig2 7457).toInt ≤ 1000) := hGg2.I.1 7457
  have z3 : (ig2 7457).toInt = ((i 7457).toInt + 1) := hg2
  have t4 : trS (a 135) (i 7457) (ag2 135) (ig2 7457) [70] := og2
  refine ft_go mi_k210 4 71 [(0, .ref 116), (1, .int x1), (2, .int 6), (3, .int x3)] [.int x3, .int 0, .int x1, .ref 116] ig2 ag2 qg2 rg2 (by rfl) ?_
  have r5 : ((0 : Int) ≤ ((ag2 134).getD x1.toNatClampNeg 0).toInt) ∧ (((ag2 134).getD x1.toNatClampNeg 0).toInt ≤ 7) := hGg2.I.2.2.1 134 (x1.toNatClampNeg)
  have u6 : ((ag2 134).getD x1.toNatClampNeg 0).toInt = ((a 134).getD x1.toNatClampNeg 0).toInt := congrArg (fun z : List Int32 => (z.getD x1.toNatClampNeg 0).toInt) (kg2.fa 134 rfl)
  refine ko_callI mi_k210.1 (pc := 71) (ls := [(0, .ref 116), (1, .int x1), (2, .int 6), (3, .int x3)]) (st := [.int x3, .int 0, .int x1, .ref 116]) (h := ks ig2 ag2 qg2 rg2) (i := (.invokevirtual 354, 3, 210, 0, 9, 0, 463)) (mi_k210.2 _ _ (by rfl)) (ft_invS mi_pq210 (by rfl)) (cy := mi_c210) mi_pq210 rfl (ke210_116_l10_K6 hGg2.I hGg2.R x1 x3 (or25 hp0.1 hp0.2) (or91 hp1 u6) (or26 fig2_7457.1 hp2.2 z3)) (by decide) ?_
  intro vg7 ig7 ag7 qg7 rg7 kg7 hg7
  have hGg7 := kG_call hGg2 kg7 (by decide +kernel)
  obtain ⟨hg7, og7⟩ := hg7
  have fig7_7457 : ((0 : Int) ≤ (ig7 7457).toInt) ∧ ((ig7 7457).toInt ≤ 1000) := hGg7.I.1 7457
  have z8 : (ig7 7457).toInt = ((ig2 7457).toInt + 1) := hg7
  have q9 : vg7 = av0_0_6 x1 x3 := og7.1
  have t10 : trS (ag2 135) (ig2 7457) (ag7 135) (ig7 7457) [1] := og7.2
  have b11 : ((-2147483648 : Int) ≤ vg7.toInt) ∧ (vg7.toInt ≤ 2147483647) := kd_bd vg7
  refine ft_go mi_k210 2 76 [(0, .ref 116), (1, .int x1), (2, .int 6), (3, .int x3)] [.int (vg7 * 2)] ig7 ag7 qg7 rg7 (by rfl) ?_
  exact ft_ret mi_k210 (by rfl) (hP (vg7 * 2) _ _ _ _ hGg7 ⟨(or27 z3 z8), ⟨(show (vg7 * 2) = av6_0_6 x1 x3 from congrArg (fun z0_ => (z0_ * 2)) q9), (tr_app (es := [70, 1]) t4 t10 (by rfl))⟩⟩)
def yw211_116_l10_K6 : kW := ([7457], [135], [], [])
set_option maxRecDepth 100000 in
theorem ke211_116_l10_K6 {i : Nat → Int32} {a : Nat → List Int32} {q : Nat → List Int64} {r : Nat → Nat} (hI : kI i a q) (hr : kr r) (x1 : Int32) (x3 : Int32) (hp0 : ((0 : Int) ≤ x1.toInt) ∧ (x1.toInt ≤ 49)) (hp1 : ((a 134).getD x1.toNatClampNeg 0).toInt = 6) (hp2 : ((0 : Int) ≤ (i 7457).toInt) ∧ (((i 7457).toInt + 3) ≤ 900)) : km 7 211 [.ref 116, .int x1, .int 0, .int x3] (ks i a q r) (kVI yw211_116_l10_K6 i a q r (fun v i1 a1 q1 r1 => ((i1 7457).toInt = ((i 7457).toInt + 3)) ∧ (v = av0_1_6 x1 x3 ∧ trS (a 135) (i 7457) (a1 135) (i1 7457) [10, 70, 1]))) := by
  have hG := kG_self yw211_116_l10_K6 hI hr
  refine km_ofI (q := (mi_h211, mi_c211)) rfl (by decide) (Nat.le_of_ble_eq_true rfl) ?_
  intro P hP
  have r1 : ((0 : Int) ≤ ((a 134).getD x1.toNatClampNeg 0).toInt) ∧ (((a 134).getD x1.toNatClampNeg 0).toInt ≤ 7) := hG.I.2.2.1 134 (x1.toNatClampNeg)
  have fi_7457 : ((0 : Int) ≤ (i 7457).toInt) ∧ ((i 7457).toInt ≤ 1000) := hG.I.1 7457
  refine ft_go mi_k211 4 51 [(0, .ref 116), (1, .int x1), (2, .int 0), (3, .int x3)] [.int 10, .ref 116] i a q r (by rfl) ?_
  refine ko_callN mi_k211.1 (pc := 51) (ls := [(0, .ref 116), (1, .int x1), (2, .int 0), (3, .int x3)]) (st := [.int 10, .ref 116]) (h := ks i a q r) (i := (.invokevirtual 351, 3, 209, 0, 9, 0, 464)) (mi_k211.2 _ _ (by rfl)) (ft_invS mi_pq209 (by rfl)) (cy := mi_c209) mi_pq209 rfl (ke209_116 hG.I hG.R 10 (or40 fi_7457.1 hp2.2)) (by decide) ?_
  intro ig2 ag2 qg2 rg2 kg2 hg2
  have hGg2 := kG_call hG kg2 (by decide +kernel)
  obtain ⟨hg2, og2⟩ := hg2
  have fig2_7457 : ((0 : Int) ≤ (ig2 7457).toInt) ∧ ((ig2 7457).toInt ≤ 1000) := hGg2.I.1 7457
  have z3 : (ig2 7457).toInt = ((i 7457).toInt + 1) := hg2
  have t4 : trS (a 135) (i 7457) (ag2 135) (ig2 7457) [10] := og2
  refine ft_go mi_k211 5 61 [(0, .ref 116), (1, .int x1), (2, .int 0), (3, .int x3)] [.int x1, .ref 134, .int x1, .ref 116] ig2 ag2 qg2 rg2 (by rfl) ?_
  refine ko_iald3 mi_k211.1 (n := 50) (c := 50) (ax := (0, 0, 0, 0, 0)) (mi_k211.2 _ _ (by rfl)) (by rfl) (ksG134 _ _ _ _) (hGg2.I.2.1 134) rfl (or14 hp0.1) (or20 hp0.2) ?_
  have r5 : ((0 : Int) ≤ ((ag2 134).getD x1.toNatClampNeg 0).toInt) ∧ (((ag2 134).getD x1.toNatClampNeg 0).toInt ≤ 7) := hGg2.I.2.2.1 134 (x1.toNatClampNeg)
  have u6 : ((ag2 134).getD x1.toNatClampNeg 0).toInt = ((a 134).getD x1.toNatClampNeg 0).toInt := congrArg (fun z : List Int32 => (z.getD x1.toNatClampNeg 0).toInt) (kg2.fa 134 rfl)
  refine ko_eq (x1 := (62, [(0, .ref 116), (1, .int x1), (2, .int 0), (3, .int x3)], [.int 6, .int x1, .ref 116], (0, 0), ks ig2 ag2 qg2 rg2)) (by rw [(kj_eq (or91 hp1 u6) (by decide) : ((ag2 134).getD x1.toNatClampNeg 0) = 6)]) ?_
  refine ft_go mi_k211 1 63 [(0, .ref 116), (1, .int x1), (2, .int 0), (3, .int x3)] [.int x3, .int 6, .int x1, .ref 116] ig2 ag2 qg2 rg2 (by rfl) ?_
  refine ko_callI mi_k211.1 (pc := 63) (ls := [(0, .ref 116), (1, .int x1), (2, .int 0), (3, .int x3)]) (st := [.int x3, .int 6, .int x1, .ref 116]) (h := ks ig2 ag2 qg2 rg2) (i := (.invokevirtual 354, 3, 210, 0, 9, 0, 463)) (mi_k211.2 _ _ (by rfl)) (ft_invS mi_pq210 (by rfl)) (cy := mi_c210) mi_pq210 rfl (ke210_116_l16_K6 hGg2.I hGg2.R x1 x3 (or25 hp0.1 hp0.2) (or91 hp1 u6) (or41 fig2_7457.1 hp2.2 z3)) (by decide) ?_
  intro vg7 ig7 ag7 qg7 rg7 kg7 hg7
  have hGg7 := kG_call hGg2 kg7 (by decide +kernel)
  obtain ⟨hg7, og7⟩ := hg7
  have fig7_7457 : ((0 : Int) ≤ (ig7 7457).toInt) ∧ ((ig7 7457).toInt ≤ 1000) := hGg7.I.1 7457
  have z8 : (ig7 7457).toInt = ((ig2 7457).toInt + 2) := hg7
  have q9 : vg7 = av6_0_6 x1 x3 := og7.1
  have t10 : trS (ag2 135) (ig2 7457) (ag7 135) (ig7 7457) [70, 1] := og7.2
  have b11 : ((-2147483648 : Int) ≤ vg7.toInt) ∧ (vg7.toInt ≤ 2147483647) := kd_bd vg7
  refine ft_go mi_k211 2 68 [(0, .ref 116), (1, .int x1), (2, .int 0), (3, .int x3)] [.int (vg7 * 2)] ig7 ag7 qg7 rg7 (by rfl) ?_
  exact ft_ret mi_k211 (by rfl) (hP (vg7 * 2) _ _ _ _ hGg7 ⟨(or42 z3 z8), ⟨(show (vg7 * 2) = av0_1_6 x1 x3 from congrArg (fun z0_ => (z0_ * 2)) q9), (tr_app (es := [10, 70, 1]) t4 t10 (by rfl))⟩⟩)
def yw211_116_l16_K6 : kW := ([7457], [135], [], [])
set_option maxRecDepth 100000 in
theorem ke211_116_l16_K6 {i : Nat → Int32} {a : Nat → List Int32} {q : Nat → List Int64} {r : Nat → Nat} (hI : kI i a q) (hr : kr r) (x1 : Int32) (x3 : Int32) (hp0 : ((0 : Int) ≤ x1.toInt) ∧ (x1.toInt ≤ 49)) (hp1 : ((a 134).getD x1.toNatClampNeg 0).toInt = 6) (hp2 : ((0 : Int) ≤ (i 7457).toInt) ∧ (((i 7457).toInt + 3) ≤ 900)) : km 9 211 [.ref 116, .int x1, .int 6, .int x3] (ks i a q r) (kVI yw211_116_l16_K6 i a q r (fun v i1 a1 q1 r1 => ((i1 7457).toInt = ((i 7457).toInt + 3)) ∧ (v = av0_1_6 x1 x3 ∧ trS (a 135) (i 7457) (a1 135) (i1 7457) [10, 70, 1]))) := by
  have hG := kG_self yw211_116_l16_K6 hI hr
  refine km_ofI (q := (mi_h211, mi_c211)) rfl (by decide) (Nat.le_of_ble_eq_true rfl) ?_
  intro P hP
  have r1 : ((0 : Int) ≤ ((a 134).getD x1.toNatClampNeg 0).toInt) ∧ (((a 134).getD x1.toNatClampNeg 0).toInt ≤ 7) := hG.I.2.2.1 134 (x1.toNatClampNeg)
  have fi_7457 : ((0 : Int) ≤ (i 7457).toInt) ∧ ((i 7457).toInt ≤ 1000) := hG.I.1 7457
  refine ft_go mi_k211 5 134 [(0, .ref 116), (1, .int x1), (2, .int 6), (3, .int x3)] [.int 6, .int x1, .ref 116] i a q r (by rfl) ?_
  refine ko_callPI mi_k211.1 (pc := 134) (ls := [(0, .ref 116), (1, .int x1), (2, .int 6), (3, .int x3)]) (st := [.int 6, .int x1, .ref 116]) (h := ks i a q r) (i := (.invokestatic 357, 3, 208, 0, 9, 0, 465)) (mi_k211.2 _ _ (by rfl)) (ft_invS mi_pq208 (by rfl)) (cy := mi_c208) mi_pq208 rfl (kc208_l06 hG.I hG.R ) (by decide) ?_
  intro vg2 hg2
  have z3 : vg2.toInt = 0 := hg2
  have evvg2 := kj_eq (or37 z3) (by decide : (0 : Int32).toInt = 0)
  subst evvg2
  refine ft_go mi_k211 1 138 [(0, .ref 116), (1, .int x1), (2, .int 6), (3, .int x3)] [.int x3, .int 0, .int x1, .ref 116] i a q r (by rfl) ?_
  refine ko_callI mi_k211.1 (pc := 138) (ls := [(0, .ref 116), (1, .int x1), (2, .int 6), (3, .int x3)]) (st := [.int x3, .int 0, .int x1, .ref 116]) (h := ks i a q r) (i := (.invokevirtual 360, 3, 211, 0, 9, 0, 466)) (mi_k211.2 _ _ (by rfl)) (ft_invS mi_pq211 (by rfl)) (cy := mi_c211) mi_pq211 rfl (ke211_116_l10_K6 hG.I hG.R x1 x3 (or25 hp0.1 hp0.2) (or92 hp1) (or44 fi_7457.1 hp2.2)) (by decide) ?_
  intro vg4 ig4 ag4 qg4 rg4 kg4 hg4
  have hGg4 := kG_call hG kg4 (by decide +kernel)
  obtain ⟨hg4, og4⟩ := hg4
  have fig4_7457 : ((0 : Int) ≤ (ig4 7457).toInt) ∧ ((ig4 7457).toInt ≤ 1000) := hGg4.I.1 7457
  have z5 : (ig4 7457).toInt = ((i 7457).toInt + 3) := hg4
  have q6 : vg4 = av0_1_6 x1 x3 := og4.1
  have t7 : trS (a 135) (i 7457) (ag4 135) (ig4 7457) [10, 70, 1] := og4.2
  exact ft_ret mi_k211 (by rfl) (hP vg4 _ _ _ _ hGg4 ⟨(or45 z5), ⟨(show vg4 = av0_1_6 x1 x3 from congrArg (fun z0_ => z0_) q6), t7⟩⟩)
def yw212_116_l10_K6 : kW := ([7457], [135], [], [])
set_option maxRecDepth 100000 in
theorem ke212_116_l10_K6 {i : Nat → Int32} {a : Nat → List Int32} {q : Nat → List Int64} {r : Nat → Nat} (hI : kI i a q) (hr : kr r) (x1 : Int32) (x3 : Int32) (hp0 : ((0 : Int) ≤ x1.toInt) ∧ (x1.toInt ≤ 49)) (hp1 : ((a 134).getD x1.toNatClampNeg 0).toInt = 6) (hp2 : ((0 : Int) ≤ (i 7457).toInt) ∧ (((i 7457).toInt + 1) ≤ 900)) : km 3 212 [.ref 116, .int x1, .int 0, .int x3] (ks i a q r) (kVI yw212_116_l10_K6 i a q r (fun v i1 a1 q1 r1 => ((i1 7457).toInt = ((i 7457).toInt + 1)) ∧ (v = av0_2_6 x1 x3 ∧ trS (a 135) (i 7457) (a1 135) (i1 7457) [11]))) := by
  have hG := kG_self yw212_116_l10_K6 hI hr
  refine km_ofI (q := (mi_h212, mi_c212)) rfl (by decide) (Nat.le_of_ble_eq_true rfl) ?_
  intro P hP
  have r1 : ((0 : Int) ≤ ((a 134).getD x1.toNatClampNeg 0).toInt) ∧ (((a 134).getD x1.toNatClampNeg 0).toInt ≤ 7) := hG.I.2.2.1 134 (x1.toNatClampNeg)
  have fi_7457 : ((0 : Int) ≤ (i 7457).toInt) ∧ ((i 7457).toInt ≤ 1000) := hG.I.1 7457
  refine ft_go mi_k212 4 39 [(0, .ref 116), (1, .int x1), (2, .int 0), (3, .int x3)] [.int 11, .ref 116] i a q r (by rfl) ?_
  refine ko_callN mi_k212.1 (pc := 39) (ls := [(0, .ref 116), (1, .int x1), (2, .int 0), (3, .int x3)]) (st := [.int 11, .ref 116]) (h := ks i a q r) (i := (.invokevirtual 351, 3, 209, 0, 9, 0, 464)) (mi_k212.2 _ _ (by rfl)) (ft_invS mi_pq209 (by rfl)) (cy := mi_c209) mi_pq209 rfl (ke209_116 hG.I hG.R 11 (or23 fi_7457.1 hp2.2)) (by decide) ?_
  intro ig2 ag2 qg2 rg2 kg2 hg2
  have hGg2 := kG_call hG kg2 (by decide +kernel)
  obtain ⟨hg2, og2⟩ := hg2
  have fig2_7457 : ((0 : Int) ≤ (ig2 7457).toInt) ∧ ((ig2 7457).toInt ≤ 1000) := hGg2.I.1 7457
  have z3 : (ig2 7457).toInt = ((i 7457).toInt + 1) := hg2
  have t4 : trS (a 135) (i 7457) (ag2 135) (ig2 7457) [11] := og2
  refine ft_go mi_k212 3 45 [(0, .ref 116), (1, .int x1), (2, .int 0), (3, .int x3)] [.int (x3 ^^^ x1)] ig2 ag2 qg2 rg2 (by rfl) ?_
  exact ft_ret mi_k212 (by rfl) (hP (x3 ^^^ x1) _ _ _ _ hGg2 ⟨(or24 z3), ⟨(show (x3 ^^^ x1) = av0_2_6 x1 x3 from rfl), t4⟩⟩)
def yw212_116_l16_K6 : kW := ([7457], [135], [], [])
set_option maxRecDepth 100000 in
theorem ke212_116_l16_K6 {i : Nat → Int32} {a : Nat → List Int32} {q : Nat → List Int64} {r : Nat → Nat} (hI : kI i a q) (hr : kr r) (x1 : Int32) (x3 : Int32) (hp0 : ((0 : Int) ≤ x1.toInt) ∧ (x1.toInt ≤ 49)) (hp1 : ((a 134).getD x1.toNatClampNeg 0).toInt = 6) (hp2 : ((0 : Int) ≤ (i 7457).toInt) ∧ (((i 7457).toInt + 1) ≤ 900)) : km 5 212 [.ref 116, .int x1, .int 6, .int x3] (ks i a q r) (kVI yw212_116_l16_K6 i a q r (fun v i1 a1 q1 r1 => ((i1 7457).toInt = ((i 7457).toInt + 1)) ∧ (v = av0_2_6 x1 x3 ∧ trS (a 135) (i 7457) (a1 135) (i1 7457) [11]))) := by
  have hG := kG_self yw212_116_l16_K6 hI hr
  refine km_ofI (q := (mi_h212, mi_c212)) rfl (by decide) (Nat.le_of_ble_eq_true rfl) ?_
  intro P hP
  have r1 : ((0 : Int) ≤ ((a 134).getD x1.toNatClampNeg 0).toInt) ∧ (((a 134).getD x1.toNatClampNeg 0).toInt ≤ 7) := hG.I.2.2.1 134 (x1.toNatClampNeg)
  have fi_7457 : ((0 : Int) ≤ (i 7457).toInt) ∧ ((i 7457).toInt ≤ 1000) := hG.I.1 7457
  refine ft_go mi_k212 5 96 [(0, .ref 116), (1, .int x1), (2, .int 6), (3, .int x3)] [.int 6, .int x1, .ref 116] i a q r (by rfl) ?_
  refine ko_callPI mi_k212.1 (pc := 96) (ls := [(0, .ref 116), (1, .int x1), (2, .int 6), (3, .int x3)]) (st := [.int 6, .int x1, .ref 116]) (h := ks i a q r) (i := (.invokestatic 357, 3, 208, 0, 9, 0, 465)) (mi_k212.2 _ _ (by rfl)) (ft_invS mi_pq208 (by rfl)) (cy := mi_c208) mi_pq208 rfl (kc208_l06 hG.I hG.R ) (by decide) ?_
  intro vg2 hg2
  have z3 : vg2.toInt = 0 := hg2
  have evvg2 := kj_eq (or37 z3) (by decide : (0 : Int32).toInt = 0)
  subst evvg2
  refine ft_go mi_k212 1 100 [(0, .ref 116), (1, .int x1), (2, .int 6), (3, .int x3)] [.int x3, .int 0, .int x1, .ref 116] i a q r (by rfl) ?_
  refine ko_callI mi_k212.1 (pc := 100) (ls := [(0, .ref 116), (1, .int x1), (2, .int 6), (3, .int x3)]) (st := [.int x3, .int 0, .int x1, .ref 116]) (h := ks i a q r) (i := (.invokevirtual 363, 3, 212, 0, 9, 0, 467)) (mi_k212.2 _ _ (by rfl)) (ft_invS mi_pq212 (by rfl)) (cy := mi_c212) mi_pq212 rfl (ke212_116_l10_K6 hG.I hG.R x1 x3 (or25 hp0.1 hp0.2) (or92 hp1) (or48 fi_7457.1 hp2.2)) (by decide) ?_
  intro vg4 ig4 ag4 qg4 rg4 kg4 hg4
  have hGg4 := kG_call hG kg4 (by decide +kernel)
  obtain ⟨hg4, og4⟩ := hg4
  have fig4_7457 : ((0 : Int) ≤ (ig4 7457).toInt) ∧ ((ig4 7457).toInt ≤ 1000) := hGg4.I.1 7457
  have z5 : (ig4 7457).toInt = ((i 7457).toInt + 1) := hg4
  have q6 : vg4 = av0_2_6 x1 x3 := og4.1
  have t7 : trS (a 135) (i 7457) (ag4 135) (ig4 7457) [11] := og4.2
  exact ft_ret mi_k212 (by rfl) (hP vg4 _ _ _ _ hGg4 ⟨(or24 z5), ⟨(show vg4 = av0_2_6 x1 x3 from congrArg (fun z0_ => z0_) q6), t7⟩⟩)
def yw213_116_l10_K6 : kW := ([7457], [135], [], [])
set_option maxRecDepth 100000 in
theorem ke213_116_l10_K6 {i : Nat → Int32} {a : Nat → List Int32} {q : Nat → List Int64} {r : Nat → Nat} (hI : kI i a q) (hr : kr r) (x1 : Int32) (x3 : Int32) (hp0 : ((0 : Int) ≤ x1.toInt) ∧ (x1.toInt ≤ 49)) (hp1 : ((a 134).getD x1.toNatClampNeg 0).toInt = 6) (hp2 : ((0 : Int) ≤ (i 7457).toInt) ∧ (((i 7457).toInt + 5) ≤ 900)) : km 11 213 [.ref 116, .int x1, .int 0, .int x3] (ks i a q r) (kVI yw213_116_l10_K6 i a q r (fun v i1 a1 q1 r1 => ((i1 7457).toInt = ((i 7457).toInt + 5)) ∧ (v = av0_3_6 x1 x3 ∧ trS (a 135) (i 7457) (a1 135) (i1 7457) [2, 10, 70, 1, 11]))) := by
  have hG := kG_self yw213_116_l10_K6 hI hr
  refine km_ofI (q := (mi_h213, mi_c213)) rfl (by decide) (Nat.le_of_ble_eq_true rfl) ?_
  intro P hP
  have r1 : ((0 : Int) ≤ ((a 134).getD x1.toNatClampNeg 0).toInt) ∧ (((a 134).getD x1.toNatClampNeg 0).toInt ≤ 7) := hG.I.2.2.1 134 (x1.toNatClampNeg)
  have fi_7457 : ((0 : Int) ≤ (i 7457).toInt) ∧ ((i 7457).toInt ≤ 1000) := hG.I.1 7457
  refine ft_go mi_k213 4 38 [(0, .ref 116), (1, .int x1), (2, .int 0), (3, .int x3)] [.int 2, .ref 116] i a q r (by rfl) ?_
  refine ko_callN mi_k213.1 (pc := 38) (ls := [(0, .ref 116), (1, .int x1), (2, .int 0), (3, .int x3)]) (st := [.int 2, .ref 116]) (h := ks i a q r) (i := (.invokevirtual 351, 3, 209, 0, 9, 0, 464)) (mi_k213.2 _ _ (by rfl)) (ft_invS mi_pq209 (by rfl)) (cy := mi_c209) mi_pq209 rfl (ke209_116 hG.I hG.R 2 (or38 fi_7457.1 hp2.2)) (by decide) ?_
  intro ig2 ag2 qg2 rg2 kg2 hg2
  have hGg2 := kG_call hG kg2 (by decide +kernel)
  obtain ⟨hg2, og2⟩ := hg2
  have fig2_7457 : ((0 : Int) ≤ (ig2 7457).toInt) ∧ ((ig2 7457).toInt ≤ 1000) := hGg2.I.1 7457
  have z3 : (ig2 7457).toInt = ((i 7457).toInt + 1) := hg2
  have t4 : trS (a 135) (i 7457) (ag2 135) (ig2 7457) [2] := og2
  refine ft_go mi_k213 5 48 [(0, .ref 116), (1, .int x1), (2, .int 0), (3, .int x3)] [.int x1, .ref 134, .int x1, .ref 116] ig2 ag2 qg2 rg2 (by rfl) ?_
  refine ko_iald3 mi_k213.1 (n := 50) (c := 50) (ax := (0, 0, 0, 0, 0)) (mi_k213.2 _ _ (by rfl)) (by rfl) (ksG134 _ _ _ _) (hGg2.I.2.1 134) rfl (or14 hp0.1) (or20 hp0.2) ?_
  have r5 : ((0 : Int) ≤ ((ag2 134).getD x1.toNatClampNeg 0).toInt) ∧ (((ag2 134).getD x1.toNatClampNeg 0).toInt ≤ 7) := hGg2.I.2.2.1 134 (x1.toNatClampNeg)
  have u6 : ((ag2 134).getD x1.toNatClampNeg 0).toInt = ((a 134).getD x1.toNatClampNeg 0).toInt := congrArg (fun z : List Int32 => (z.getD x1.toNatClampNeg 0).toInt) (kg2.fa 134 rfl)
  refine ko_eq (x1 := (49, [(0, .ref 116), (1, .int x1), (2, .int 0), (3, .int x3)], [.int 6, .int x1, .ref 116], (0, 0), ks ig2 ag2 qg2 rg2)) (by rw [(kj_eq (or91 hp1 u6) (by decide) : ((ag2 134).getD x1.toNatClampNeg 0) = 6)]) ?_
  refine ft_go mi_k213 1 50 [(0, .ref 116), (1, .int x1), (2, .int 0), (3, .int x3)] [.int x3, .int 6, .int x1, .ref 116] ig2 ag2 qg2 rg2 (by rfl) ?_
  refine ko_callI mi_k213.1 (pc := 50) (ls := [(0, .ref 116), (1, .int x1), (2, .int 0), (3, .int x3)]) (st := [.int x3, .int 6, .int x1, .ref 116]) (h := ks ig2 ag2 qg2 rg2) (i := (.invokevirtual 360, 3, 211, 0, 9, 0, 466)) (mi_k213.2 _ _ (by rfl)) (ft_invS mi_pq211 (by rfl)) (cy := mi_c211) mi_pq211 rfl (ke211_116_l16_K6 hGg2.I hGg2.R x1 x3 (or25 hp0.1 hp0.2) (or91 hp1 u6) (or46 fig2_7457.1 hp2.2 z3)) (by decide) ?_
  intro vg7 ig7 ag7 qg7 rg7 kg7 hg7
  have hGg7 := kG_call hGg2 kg7 (by decide +kernel)
  obtain ⟨hg7, og7⟩ := hg7
  have fig7_7457 : ((0 : Int) ≤ (ig7 7457).toInt) ∧ ((ig7 7457).toInt ≤ 1000) := hGg7.I.1 7457
  have z8 : (ig7 7457).toInt = ((ig2 7457).toInt + 3) := hg7
  have q9 : vg7 = av0_1_6 x1 x3 := og7.1
  have t10 : trS (ag2 135) (ig2 7457) (ag7 135) (ig7 7457) [10, 70, 1] := og7.2
  refine ft_go mi_k213 7 64 [(4, .int vg7), (0, .ref 116), (1, .int x1), (2, .int 0), (3, .int x3)] [.int x1, .ref 134, .int x1, .ref 116, .int vg7] ig7 ag7 qg7 rg7 (by rfl) ?_
  refine ko_iald3 mi_k213.1 (n := 50) (c := 50) (ax := (0, 0, 0, 0, 0)) (mi_k213.2 _ _ (by rfl)) (by rfl) (ksG134 _ _ _ _) (hGg7.I.2.1 134) rfl (or14 hp0.1) (or20 hp0.2) ?_
  have r11 : ((0 : Int) ≤ ((ag7 134).getD x1.toNatClampNeg 0).toInt) ∧ (((ag7 134).getD x1.toNatClampNeg 0).toInt ≤ 7) := hGg7.I.2.2.1 134 (x1.toNatClampNeg)
  have u12 : ((ag7 134).getD x1.toNatClampNeg 0).toInt = ((ag2 134).getD x1.toNatClampNeg 0).toInt := congrArg (fun z : List Int32 => (z.getD x1.toNatClampNeg 0).toInt) (kg7.fa 134 rfl)
  refine ko_eq (x1 := (65, [(4, .int vg7), (0, .ref 116), (1, .int x1), (2, .int 0), (3, .int x3)], [.int 6, .int x1, .ref 116, .int vg7], (0, 0), ks ig7 ag7 qg7 rg7)) (by rw [(kj_eq (or93 hp1 u12 u6) (by decide) : ((ag7 134).getD x1.toNatClampNeg 0) = 6)]) ?_
  refine ft_go mi_k213 1 66 [(4, .int vg7), (0, .ref 116), (1, .int x1), (2, .int 0), (3, .int x3)] [.int 1, .int 6, .int x1, .ref 116, .int vg7] ig7 ag7 qg7 rg7 (by rfl) ?_
  refine ko_callI mi_k213.1 (pc := 66) (ls := [(4, .int vg7), (0, .ref 116), (1, .int x1), (2, .int 0), (3, .int x3)]) (st := [.int 1, .int 6, .int x1, .ref 116, .int vg7]) (h := ks ig7 ag7 qg7 rg7) (i := (.invokevirtual 363, 3, 212, 0, 9, 0, 467)) (mi_k213.2 _ _ (by rfl)) (ft_invS mi_pq212 (by rfl)) (cy := mi_c212) mi_pq212 rfl (ke212_116_l16_K6 hGg7.I hGg7.R x1 1 (or25 hp0.1 hp0.2) (or93 hp1 u12 u6) (or49 fig7_7457.1 hp2.2 z3 z8)) (by decide) ?_
  intro vg13 ig13 ag13 qg13 rg13 kg13 hg13
  have hGg13 := kG_call hGg7 kg13 (by decide +kernel)
  obtain ⟨hg13, og13⟩ := hg13
  have fig13_7457 : ((0 : Int) ≤ (ig13 7457).toInt) ∧ ((ig13 7457).toInt ≤ 1000) := hGg13.I.1 7457
  have z14 : (ig13 7457).toInt = ((ig7 7457).toInt + 1) := hg13
  have q15 : vg13 = av0_2_6 x1 (1 : Int32) := og13.1
  have t16 : trS (ag7 135) (ig7 7457) (ag13 135) (ig13 7457) [11] := og13.2
  have b17 : ((-2147483648 : Int) ≤ vg7.toInt) ∧ (vg7.toInt ≤ 2147483647) := kd_bd vg7
  have b18 : ((-2147483648 : Int) ≤ vg13.toInt) ∧ (vg13.toInt ≤ 2147483647) := kd_bd vg13
  refine ft_go mi_k213 1 70 [(4, .int vg7), (0, .ref 116), (1, .int x1), (2, .int 0), (3, .int x3)] [.int (vg7 - vg13)] ig13 ag13 qg13 rg13 (by rfl) ?_
  exact ft_ret mi_k213 (by rfl) (hP (vg7 - vg13) _ _ _ _ hGg13 ⟨(or50 z14 z3 z8), ⟨(show (vg7 - vg13) = av0_3_6 x1 x3 from by rw [q9, q15]; rfl), (tr_app (es := [2, 10, 70, 1, 11]) (tr_app (es := [2, 10, 70, 1]) t4 t10 (by rfl)) t16 (by rfl))⟩⟩)
def yw213_116_l16_K6 : kW := ([7457], [135], [], [])
set_option maxRecDepth 100000 in
theorem ke213_116_l16_K6 {i : Nat → Int32} {a : Nat → List Int32} {q : Nat → List Int64} {r : Nat → Nat} (hI : kI i a q) (hr : kr r) (x1 : Int32) (x3 : Int32) (hp0 : ((0 : Int) ≤ x1.toInt) ∧ (x1.toInt ≤ 49)) (hp1 : ((a 134).getD x1.toNatClampNeg 0).toInt = 6) (hp2 : ((0 : Int) ≤ (i 7457).toInt) ∧ (((i 7457).toInt + 5) ≤ 900)) : km 13 213 [.ref 116, .int x1, .int 6, .int x3] (ks i a q r) (kVI yw213_116_l16_K6 i a q r (fun v i1 a1 q1 r1 => ((i1 7457).toInt = ((i 7457).toInt + 5)) ∧ (v = av0_3_6 x1 x3 ∧ trS (a 135) (i 7457) (a1 135) (i1 7457) [2, 10, 70, 1, 11]))) := by
  have hG := kG_self yw213_116_l16_K6 hI hr
  refine km_ofI (q := (mi_h213, mi_c213)) rfl (by decide) (Nat.le_of_ble_eq_true rfl) ?_
  intro P hP
  have r1 : ((0 : Int) ≤ ((a 134).getD x1.toNatClampNeg 0).toInt) ∧ (((a 134).getD x1.toNatClampNeg 0).toInt ≤ 7) := hG.I.2.2.1 134 (x1.toNatClampNeg)
  have fi_7457 : ((0 : Int) ≤ (i 7457).toInt) ∧ ((i 7457).toInt ≤ 1000) := hG.I.1 7457
  refine ft_go mi_k213 5 106 [(0, .ref 116), (1, .int x1), (2, .int 6), (3, .int x3)] [.int 6, .int x1, .ref 116] i a q r (by rfl) ?_
  refine ko_callPI mi_k213.1 (pc := 106) (ls := [(0, .ref 116), (1, .int x1), (2, .int 6), (3, .int x3)]) (st := [.int 6, .int x1, .ref 116]) (h := ks i a q r) (i := (.invokestatic 357, 3, 208, 0, 9, 0, 465)) (mi_k213.2 _ _ (by rfl)) (ft_invS mi_pq208 (by rfl)) (cy := mi_c208) mi_pq208 rfl (kc208_l06 hG.I hG.R ) (by decide) ?_
  intro vg2 hg2
  have z3 : vg2.toInt = 0 := hg2
  have evvg2 := kj_eq (or37 z3) (by decide : (0 : Int32).toInt = 0)
  subst evvg2
  refine ft_go mi_k213 1 110 [(0, .ref 116), (1, .int x1), (2, .int 6), (3, .int x3)] [.int x3, .int 0, .int x1, .ref 116] i a q r (by rfl) ?_
  refine ko_callI mi_k213.1 (pc := 110) (ls := [(0, .ref 116), (1, .int x1), (2, .int 6), (3, .int x3)]) (st := [.int x3, .int 0, .int x1, .ref 116]) (h := ks i a q r) (i := (.invokevirtual 366, 3, 213, 0, 9, 0, 468)) (mi_k213.2 _ _ (by rfl)) (ft_invS mi_pq213 (by rfl)) (cy := mi_c213) mi_pq213 rfl (ke213_116_l10_K6 hG.I hG.R x1 x3 (or25 hp0.1 hp0.2) (or92 hp1) (or51 fi_7457.1 hp2.2)) (by decide) ?_
  intro vg4 ig4 ag4 qg4 rg4 kg4 hg4
  have hGg4 := kG_call hG kg4 (by decide +kernel)
  obtain ⟨hg4, og4⟩ := hg4
  have fig4_7457 : ((0 : Int) ≤ (ig4 7457).toInt) ∧ ((ig4 7457).toInt ≤ 1000) := hGg4.I.1 7457
  have z5 : (ig4 7457).toInt = ((i 7457).toInt + 5) := hg4
  have q6 : vg4 = av0_3_6 x1 x3 := og4.1
  have t7 : trS (a 135) (i 7457) (ag4 135) (ig4 7457) [2, 10, 70, 1, 11] := og4.2
  exact ft_ret mi_k213 (by rfl) (hP vg4 _ _ _ _ hGg4 ⟨(or52 z5), ⟨(show vg4 = av0_3_6 x1 x3 from congrArg (fun z0_ => z0_) q6), t7⟩⟩)
def yw210_116_l10_K7 : kW := ([7457], [135], [], [])
set_option maxRecDepth 100000 in
theorem ke210_116_l10_K7 {i : Nat → Int32} {a : Nat → List Int32} {q : Nat → List Int64} {r : Nat → Nat} (hI : kI i a q) (hr : kr r) (x1 : Int32) (x3 : Int32) (hp0 : ((0 : Int) ≤ x1.toInt) ∧ (x1.toInt ≤ 49)) (hp1 : ((a 134).getD x1.toNatClampNeg 0).toInt = 7) (hp2 : ((0 : Int) ≤ (i 7457).toInt) ∧ (((i 7457).toInt + 1) ≤ 900)) : km 3 210 [.ref 116, .int x1, .int 0, .int x3] (ks i a q r) (kVI yw210_116_l10_K7 i a q r (fun v i1 a1 q1 r1 => ((i1 7457).toInt = ((i 7457).toInt + 1)) ∧ (v = av0_0_7 x1 x3 ∧ trS (a 135) (i 7457) (a1 135) (i1 7457) [1]))) := by
  have hG := kG_self yw210_116_l10_K7 hI hr
  refine km_ofI (q := (mi_h210, mi_c210)) rfl (by decide) (Nat.le_of_ble_eq_true rfl) ?_
  intro P hP
  have r1 : ((0 : Int) ≤ ((a 134).getD x1.toNatClampNeg 0).toInt) ∧ (((a 134).getD x1.toNatClampNeg 0).toInt ≤ 7) := hG.I.2.2.1 134 (x1.toNatClampNeg)
  have fi_7457 : ((0 : Int) ≤ (i 7457).toInt) ∧ ((i 7457).toInt ≤ 1000) := hG.I.1 7457
  refine ft_go mi_k210 4 38 [(0, .ref 116), (1, .int x1), (2, .int 0), (3, .int x3)] [.int 1, .ref 116] i a q r (by rfl) ?_
  refine ko_callN mi_k210.1 (pc := 38) (ls := [(0, .ref 116), (1, .int x1), (2, .int 0), (3, .int x3)]) (st := [.int 1, .ref 116]) (h := ks i a q r) (i := (.invokevirtual 351, 3, 209, 0, 9, 0, 464)) (mi_k210.2 _ _ (by rfl)) (ft_invS mi_pq209 (by rfl)) (cy := mi_c209) mi_pq209 rfl (ke209_116 hG.I hG.R 1 (or23 fi_7457.1 hp2.2)) (by decide) ?_
  intro ig2 ag2 qg2 rg2 kg2 hg2
  have hGg2 := kG_call hG kg2 (by decide +kernel)
  obtain ⟨hg2, og2⟩ := hg2
  have fig2_7457 : ((0 : Int) ≤ (ig2 7457).toInt) ∧ ((ig2 7457).toInt ≤ 1000) := hGg2.I.1 7457
  have z3 : (ig2 7457).toInt = ((i 7457).toInt + 1) := hg2
  have t4 : trS (a 135) (i 7457) (ag2 135) (ig2 7457) [1] := og2
  have b5 : ((-2147483648 : Int) ≤ x3.toInt) ∧ (x3.toInt ≤ 2147483647) := kd_bd x3
  have b6 : ((-2147483648 : Int) ≤ x1.toInt) ∧ (x1.toInt ≤ 2147483647) := kd_bd x1
  refine ft_go mi_k210 3 44 [(0, .ref 116), (1, .int x1), (2, .int 0), (3, .int x3)] [.int (x3 + x1)] ig2 ag2 qg2 rg2 (by rfl) ?_
  exact ft_ret mi_k210 (by rfl) (hP (x3 + x1) _ _ _ _ hGg2 ⟨(or24 z3), ⟨(show (x3 + x1) = av0_0_7 x1 x3 from rfl), t4⟩⟩)
def yw210_116_l11_K7 : kW := ([7457], [135], [], [])
set_option maxRecDepth 100000 in
theorem ke210_116_l11_K7 {i : Nat → Int32} {a : Nat → List Int32} {q : Nat → List Int64} {r : Nat → Nat} (hI : kI i a q) (hr : kr r) (x1 : Int32) (x3 : Int32) (hp0 : ((0 : Int) ≤ x1.toInt) ∧ (x1.toInt ≤ 49)) (hp1 : ((a 134).getD x1.toNatClampNeg 0).toInt = 7) (hp2 : ((0 : Int) ≤ (i 7457).toInt) ∧ (((i 7457).toInt + 2) ≤ 900)) : km 5 210 [.ref 116, .int x1, .int 1, .int x3] (ks i a q r) (kVI yw210_116_l11_K7 i a q r (fun v i1 a1 q1 r1 => ((i1 7457).toInt = ((i 7457).toInt + 2)) ∧ (v = av1_0_7 x1 x3 ∧ trS (a 135) (i 7457) (a1 135) (i1 7457) [20, 1]))) := by
  have hG := kG_self yw210_116_l11_K7 hI hr
  refine km_ofI (q := (mi_h210, mi_c210)) rfl (by decide) (Nat.le_of_ble_eq_true rfl) ?_
  intro P hP
  have r1 : ((0 : Int) ≤ ((a 134).getD x1.toNatClampNeg 0).toInt) ∧ (((a 134).getD x1.toNatClampNeg 0).toInt ≤ 7) := hG.I.2.2.1 134 (x1.toNatClampNeg)
  have fi_7457 : ((0 : Int) ≤ (i 7457).toInt) ∧ ((i 7457).toInt ≤ 1000) := hG.I.1 7457
  refine ft_go mi_k210 4 48 [(0, .ref 116), (1, .int x1), (2, .int 1), (3, .int x3)] [.int 20, .ref 116] i a q r (by rfl) ?_
  refine ko_callN mi_k210.1 (pc := 48) (ls := [(0, .ref 116), (1, .int x1), (2, .int 1), (3, .int x3)]) (st := [.int 20, .ref 116]) (h := ks i a q r) (i := (.invokevirtual 351, 3, 209, 0, 9, 0, 464)) (mi_k210.2 _ _ (by rfl)) (ft_invS mi_pq209 (by rfl)) (cy := mi_c209) mi_pq209 rfl (ke209_116 hG.I hG.R 20 (or22 fi_7457.1 hp2.2)) (by decide) ?_
  intro ig2 ag2 qg2 rg2 kg2 hg2
  have hGg2 := kG_call hG kg2 (by decide +kernel)
  obtain ⟨hg2, og2⟩ := hg2
  have fig2_7457 : ((0 : Int) ≤ (ig2 7457).toInt) ∧ ((ig2 7457).toInt ≤ 1000) := hGg2.I.1 7457
  have z3 : (ig2 7457).toInt = ((i 7457).toInt + 1) := hg2
  have t4 : trS (a 135) (i 7457) (ag2 135) (ig2 7457) [20] := og2
  refine ft_go mi_k210 4 55 [(0, .ref 116), (1, .int x1), (2, .int 1), (3, .int x3)] [.int x3, .int 0, .int x1, .ref 116] ig2 ag2 qg2 rg2 (by rfl) ?_
  have r5 : ((0 : Int) ≤ ((ag2 134).getD x1.toNatClampNeg 0).toInt) ∧ (((ag2 134).getD x1.toNatClampNeg 0).toInt ≤ 7) := hGg2.I.2.2.1 134 (x1.toNatClampNeg)
  have u6 : ((ag2 134).getD x1.toNatClampNeg 0).toInt = ((a 134).getD x1.toNatClampNeg 0).toInt := congrArg (fun z : List Int32 => (z.getD x1.toNatClampNeg 0).toInt) (kg2.fa 134 rfl)
  refine ko_callI mi_k210.1 (pc := 55) (ls := [(0, .ref 116), (1, .int x1), (2, .int 1), (3, .int x3)]) (st := [.int x3, .int 0, .int x1, .ref 116]) (h := ks ig2 ag2 qg2 rg2) (i := (.invokevirtual 354, 3, 210, 0, 9, 0, 463)) (mi_k210.2 _ _ (by rfl)) (ft_invS mi_pq210 (by rfl)) (cy := mi_c210) mi_pq210 rfl (ke210_116_l10_K7 hGg2.I hGg2.R x1 x3 (or25 hp0.1 hp0.2) (or96 hp1 r5.2 u6) (or26 fig2_7457.1 hp2.2 z3)) (by decide) ?_
  intro vg7 ig7 ag7 qg7 rg7 kg7 hg7
  have hGg7 := kG_call hGg2 kg7 (by decide +kernel)
  obtain ⟨hg7, og7⟩ := hg7
  have fig7_7457 : ((0 : Int) ≤ (ig7 7457).toInt) ∧ ((ig7 7457).toInt ≤ 1000) := hGg7.I.1 7457
  have z8 : (ig7 7457).toInt = ((ig2 7457).toInt + 1) := hg7
  have q9 : vg7 = av0_0_7 x1 x3 := og7.1
  have t10 : trS (ag2 135) (ig2 7457) (ag7 135) (ig7 7457) [1] := og7.2
  have b11 : ((-2147483648 : Int) ≤ vg7.toInt) ∧ (vg7.toInt ≤ 2147483647) := kd_bd vg7
  refine ft_go mi_k210 2 60 [(0, .ref 116), (1, .int x1), (2, .int 1), (3, .int x3)] [.int (vg7 + 3)] ig7 ag7 qg7 rg7 (by rfl) ?_
  exact ft_ret mi_k210 (by rfl) (hP (vg7 + 3) _ _ _ _ hGg7 ⟨(or27 z3 z8), ⟨(show (vg7 + 3) = av1_0_7 x1 x3 from congrArg (fun z0_ => (z0_ + 3)) q9), (tr_app (es := [20, 1]) t4 t10 (by rfl))⟩⟩)
def yw210_116_l14_K7 : kW := ([7457], [135], [], [])
set_option maxRecDepth 100000 in
theorem ke210_116_l14_K7 {i : Nat → Int32} {a : Nat → List Int32} {q : Nat → List Int64} {r : Nat → Nat} (hI : kI i a q) (hr : kr r) (x1 : Int32) (x3 : Int32) (hp0 : ((0 : Int) ≤ x1.toInt) ∧ (x1.toInt ≤ 49)) (hp1 : ((a 134).getD x1.toNatClampNeg 0).toInt = 7) (hp2 : ((0 : Int) ≤ (i 7457).toInt) ∧ (((i 7457).toInt + 2) ≤ 900)) : km 7 210 [.ref 116, .int x1, .int 4, .int x3] (ks i a q r) (kVI yw210_116_l14_K7 i a q r (fun v i1 a1 q1 r1 => ((i1 7457).toInt = ((i 7457).toInt + 2)) ∧ (v = av1_0_7 x1 x3 ∧ trS (a 135) (i 7457) (a1 135) (i1 7457) [20, 1]))) := by
  have hG := kG_self yw210_116_l14_K7 hI hr
  refine km_ofI (q := (mi_h210, mi_c210)) rfl (by decide) (Nat.le_of_ble_eq_true rfl) ?_
  intro P hP
  have r1 : ((0 : Int) ≤ ((a 134).getD x1.toNatClampNeg 0).toInt) ∧ (((a 134).getD x1.toNatClampNeg 0).toInt ≤ 7) := hG.I.2.2.1 134 (x1.toNatClampNeg)
  have fi_7457 : ((0 : Int) ≤ (i 7457).toInt) ∧ ((i 7457).toInt ≤ 1000) := hG.I.1 7457
  refine ft_go mi_k210 5 80 [(0, .ref 116), (1, .int x1), (2, .int 4), (3, .int x3)] [.int 4, .int x1, .ref 116] i a q r (by rfl) ?_
  refine ko_callPI mi_k210.1 (pc := 80) (ls := [(0, .ref 116), (1, .int x1), (2, .int 4), (3, .int x3)]) (st := [.int 4, .int x1, .ref 116]) (h := ks i a q r) (i := (.invokestatic 357, 3, 208, 0, 9, 0, 465)) (mi_k210.2 _ _ (by rfl)) (ft_invS mi_pq208 (by rfl)) (cy := mi_c208) mi_pq208 rfl (kc208_l04 hG.I hG.R ) (by decide) ?_
  intro vg2 hg2
  have z3 : vg2.toInt = 1 := hg2
  have evvg2 := kj_eq (or43 z3) (by decide : (1 : Int32).toInt = 1)
  subst evvg2
  refine ft_go mi_k210 1 84 [(0, .ref 116), (1, .int x1), (2, .int 4), (3, .int x3)] [.int x3, .int 1, .int x1, .ref 116] i a q r (by rfl) ?_
  refine ko_callI mi_k210.1 (pc := 84) (ls := [(0, .ref 116), (1, .int x1), (2, .int 4), (3, .int x3)]) (st := [.int x3, .int 1, .int x1, .ref 116]) (h := ks i a q r) (i := (.invokevirtual 354, 3, 210, 0, 9, 0, 463)) (mi_k210.2 _ _ (by rfl)) (ft_invS mi_pq210 (by rfl)) (cy := mi_c210) mi_pq210 rfl (ke210_116_l11_K7 hG.I hG.R x1 x3 (or25 hp0.1 hp0.2) (or97 hp1 r1.2) (or72 fi_7457.1 hp2.2)) (by decide) ?_
  intro vg4 ig4 ag4 qg4 rg4 kg4 hg4
  have hGg4 := kG_call hG kg4 (by decide +kernel)
  obtain ⟨hg4, og4⟩ := hg4
  have fig4_7457 : ((0 : Int) ≤ (ig4 7457).toInt) ∧ ((ig4 7457).toInt ≤ 1000) := hGg4.I.1 7457
  have z5 : (ig4 7457).toInt = ((i 7457).toInt + 2) := hg4
  have q6 : vg4 = av1_0_7 x1 x3 := og4.1
  have t7 : trS (a 135) (i 7457) (ag4 135) (ig4 7457) [20, 1] := og4.2
  exact ft_ret mi_k210 (by rfl) (hP vg4 _ _ _ _ hGg4 ⟨(or73 z5), ⟨(show vg4 = av1_0_7 x1 x3 from congrArg (fun z0_ => z0_) q6), t7⟩⟩)
def yw210_116_l17_K7 : kW := ([7457], [135], [], [])
set_option maxRecDepth 100000 in
theorem ke210_116_l17_K7 {i : Nat → Int32} {a : Nat → List Int32} {q : Nat → List Int64} {r : Nat → Nat} (hI : kI i a q) (hr : kr r) (x1 : Int32) (x3 : Int32) (hp0 : ((0 : Int) ≤ x1.toInt) ∧ (x1.toInt ≤ 49)) (hp1 : ((a 134).getD x1.toNatClampNeg 0).toInt = 7) (hp2 : ((0 : Int) ≤ (i 7457).toInt) ∧ (((i 7457).toInt + 2) ≤ 900)) : km 9 210 [.ref 116, .int x1, .int 7, .int x3] (ks i a q r) (kVI yw210_116_l17_K7 i a q r (fun v i1 a1 q1 r1 => ((i1 7457).toInt = ((i 7457).toInt + 2)) ∧ (v = av1_0_7 x1 x3 ∧ trS (a 135) (i 7457) (a1 135) (i1 7457) [20, 1]))) := by
  have hG := kG_self yw210_116_l17_K7 hI hr
  refine km_ofI (q := (mi_h210, mi_c210)) rfl (by decide) (Nat.le_of_ble_eq_true rfl) ?_
  intro P hP
  have r1 : ((0 : Int) ≤ ((a 134).getD x1.toNatClampNeg 0).toInt) ∧ (((a 134).getD x1.toNatClampNeg 0).toInt ≤ 7) := hG.I.2.2.1 134 (x1.toNatClampNeg)
  have fi_7457 : ((0 : Int) ≤ (i 7457).toInt) ∧ ((i 7457).toInt ≤ 1000) := hG.I.1 7457
  refine ft_go mi_k210 5 80 [(0, .ref 116), (1, .int x1), (2, .int 7), (3, .int x3)] [.int 7, .int x1, .ref 116] i a q r (by rfl) ?_
  refine ko_callPI mi_k210.1 (pc := 80) (ls := [(0, .ref 116), (1, .int x1), (2, .int 7), (3, .int x3)]) (st := [.int 7, .int x1, .ref 116]) (h := ks i a q r) (i := (.invokestatic 357, 3, 208, 0, 9, 0, 465)) (mi_k210.2 _ _ (by rfl)) (ft_invS mi_pq208 (by rfl)) (cy := mi_c208) mi_pq208 rfl (kc208_l07 hG.I hG.R ) (by decide) ?_
  intro vg2 hg2
  have z3 : vg2.toInt = 4 := hg2
  have evvg2 := kj_eq (or71 z3) (by decide : (4 : Int32).toInt = 4)
  subst evvg2
  refine ft_go mi_k210 1 84 [(0, .ref 116), (1, .int x1), (2, .int 7), (3, .int x3)] [.int x3, .int 4, .int x1, .ref 116] i a q r (by rfl) ?_
  refine ko_callI mi_k210.1 (pc := 84) (ls := [(0, .ref 116), (1, .int x1), (2, .int 7), (3, .int x3)]) (st := [.int x3, .int 4, .int x1, .ref 116]) (h := ks i a q r) (i := (.invokevirtual 354, 3, 210, 0, 9, 0, 463)) (mi_k210.2 _ _ (by rfl)) (ft_invS mi_pq210 (by rfl)) (cy := mi_c210) mi_pq210 rfl (ke210_116_l14_K7 hG.I hG.R x1 x3 (or25 hp0.1 hp0.2) (or97 hp1 r1.2) (or72 fi_7457.1 hp2.2)) (by decide) ?_
  intro vg4 ig4 ag4 qg4 rg4 kg4 hg4
  have hGg4 := kG_call hG kg4 (by decide +kernel)
  obtain ⟨hg4, og4⟩ := hg4
  have fig4_7457 : ((0 : Int) ≤ (ig4 7457).toInt) ∧ ((ig4 7457).toInt ≤ 1000) := hGg4.I.1 7457
  have z5 : (ig4 7457).toInt = ((i 7457).toInt + 2) := hg4
  have q6 : vg4 = av1_0_7 x1 x3 := og4.1
  have t7 : trS (a 135) (i 7457) (ag4 135) (ig4 7457) [20, 1] := og4.2
  exact ft_ret mi_k210 (by rfl) (hP vg4 _ _ _ _ hGg4 ⟨(or73 z5), ⟨(show vg4 = av1_0_7 x1 x3 from congrArg (fun z0_ => z0_) q6), t7⟩⟩)
def yw211_116_l10_K7 : kW := ([7457], [135], [], [])
set_option maxRecDepth 100000 in
theorem ke211_116_l10_K7 {i : Nat → Int32} {a : Nat → List Int32} {q : Nat → List Int64} {r : Nat → Nat} (hI : kI i a q) (hr : kr r) (x1 : Int32) (x3 : Int32) (hp0 : ((0 : Int) ≤ x1.toInt) ∧ (x1.toInt ≤ 49)) (hp1 : ((a 134).getD x1.toNatClampNeg 0).toInt = 7) (hp2 : ((0 : Int) ≤ (i 7457).toInt) ∧ (((i 7457).toInt + 3) ≤ 900)) : km 11 211 [.ref 116, .int x1, .int 0, .int x3] (ks i a q r) (kVI yw211_116_l10_K7 i a q r (fun v i1 a1 q1 r1 => ((i1 7457).toInt = ((i 7457).toInt + 3)) ∧ (v = av0_1_7 x1 x3 ∧ trS (a 135) (i 7457) (a1 135) (i1 7457) [10, 20, 1]))) := by
  have hG := kG_self yw211_116_l10_K7 hI hr
  refine km_ofI (q := (mi_h211, mi_c211)) rfl (by decide) (Nat.le_of_ble_eq_true rfl) ?_
  intro P hP
  have r1 : ((0 : Int) ≤ ((a 134).getD x1.toNatClampNeg 0).toInt) ∧ (((a 134).getD x1.toNatClampNeg 0).toInt ≤ 7) := hG.I.2.2.1 134 (x1.toNatClampNeg)
  have fi_7457 : ((0 : Int) ≤ (i 7457).toInt) ∧ ((i 7457).toInt ≤ 1000) := hG.I.1 7457
  refine ft_go mi_k211 4 51 [(0, .ref 116), (1, .int x1), (2, .int 0), (3, .int x3)] [.int 10, .ref 116] i a q r (by rfl) ?_
  refine ko_callN mi_k211.1 (pc := 51) (ls := [(0, .ref 116), (1, .int x1), (2, .int 0), (3, .int x3)]) (st := [.int 10, .ref 116]) (h := ks i a q r) (i := (.invokevirtual 351, 3, 209, 0, 9, 0, 464)) (mi_k211.2 _ _ (by rfl)) (ft_invS mi_pq209 (by rfl)) (cy := mi_c209) mi_pq209 rfl (ke209_116 hG.I hG.R 10 (or40 fi_7457.1 hp2.2)) (by decide) ?_
  intro ig2 ag2 qg2 rg2 kg2 hg2
  have hGg2 := kG_call hG kg2 (by decide +kernel)
  obtain ⟨hg2, og2⟩ := hg2
  have fig2_7457 : ((0 : Int) ≤ (ig2 7457).toInt) ∧ ((ig2 7457).toInt ≤ 1000) := hGg2.I.1 7457
  have z3 : (ig2 7457).toInt = ((i 7457).toInt + 1) := hg2
  have t4 : trS (a 135) (i 7457) (ag2 135) (ig2 7457) [10] := og2
  refine ft_go mi_k211 5 61 [(0, .ref 116), (1, .int x1), (2, .int 0), (3, .int x3)] [.int x1, .ref 134, .int x1, .ref 116] ig2 ag2 qg2 rg2 (by rfl) ?_
  refine ko_iald3 mi_k211.1 (n := 50) (c := 50) (ax := (0, 0, 0, 0, 0)) (mi_k211.2 _ _ (by rfl)) (by rfl) (ksG134 _ _ _ _) (hGg2.I.2.1 134) rfl (or14 hp0.1) (or20 hp0.2) ?_
  have r5 : ((0 : Int) ≤ ((ag2 134).getD x1.toNatClampNeg 0).toInt) ∧ (((ag2 134).getD x1.toNatClampNeg 0).toInt ≤ 7) := hGg2.I.2.2.1 134 (x1.toNatClampNeg)
  have u6 : ((ag2 134).getD x1.toNatClampNeg 0).toInt = ((a 134).getD x1.toNatClampNeg 0).toInt := congrArg (fun z : List Int32 => (z.getD x1.toNatClampNeg 0).toInt) (kg2.fa 134 rfl)
  refine ko_eq (x1 := (62, [(0, .ref 116), (1, .int x1), (2, .int 0), (3, .int x3)], [.int 7, .int x1, .ref 116], (0, 0), ks ig2 ag2 qg2 rg2)) (by rw [(kj_eq (or96 hp1 r5.2 u6) (by decide) : ((ag2 134).getD x1.toNatClampNeg 0) = 7)]) ?_
  refine ft_go mi_k211 1 63 [(0, .ref 116), (1, .int x1), (2, .int 0), (3, .int x3)] [.int x3, .int 7, .int x1, .ref 116] ig2 ag2 qg2 rg2 (by rfl) ?_
  refine ko_callI mi_k211.1 (pc := 63) (ls := [(0, .ref 116), (1, .int x1), (2, .int 0), (3, .int x3)]) (st := [.int x3, .int 7, .int x1, .ref 116]) (h := ks ig2 ag2 qg2 rg2) (i := (.invokevirtual 354, 3, 210, 0, 9, 0, 463)) (mi_k211.2 _ _ (by rfl)) (ft_invS mi_pq210 (by rfl)) (cy := mi_c210) mi_pq210 rfl (ke210_116_l17_K7 hGg2.I hGg2.R x1 x3 (or25 hp0.1 hp0.2) (or96 hp1 r5.2 u6) (or41 fig2_7457.1 hp2.2 z3)) (by decide) ?_
  intro vg7 ig7 ag7 qg7 rg7 kg7 hg7
  have hGg7 := kG_call hGg2 kg7 (by decide +kernel)
  obtain ⟨hg7, og7⟩ := hg7
  have fig7_7457 : ((0 : Int) ≤ (ig7 7457).toInt) ∧ ((ig7 7457).toInt ≤ 1000) := hGg7.I.1 7457
  have z8 : (ig7 7457).toInt = ((ig2 7457).toInt + 2) := hg7
  have q9 : vg7 = av1_0_7 x1 x3 := og7.1
  have t10 : trS (ag2 135) (ig2 7457) (ag7 135) (ig7 7457) [20, 1] := og7.2
  have b11 : ((-2147483648 : Int) ≤ vg7.toInt) ∧ (vg7.toInt ≤ 2147483647) := kd_bd vg7
  refine ft_go mi_k211 2 68 [(0, .ref 116), (1, .int x1), (2, .int 0), (3, .int x3)] [.int (vg7 * 2)] ig7 ag7 qg7 rg7 (by rfl) ?_
  exact ft_ret mi_k211 (by rfl) (hP (vg7 * 2) _ _ _ _ hGg7 ⟨(or42 z3 z8), ⟨(show (vg7 * 2) = av0_1_7 x1 x3 from congrArg (fun z0_ => (z0_ * 2)) q9), (tr_app (es := [10, 20, 1]) t4 t10 (by rfl))⟩⟩)
def yw211_116_l11_K7 : kW := ([7457], [135], [], [])
set_option maxRecDepth 100000 in
theorem ke211_116_l11_K7 {i : Nat → Int32} {a : Nat → List Int32} {q : Nat → List Int64} {r : Nat → Nat} (hI : kI i a q) (hr : kr r) (x1 : Int32) (x3 : Int32) (hp0 : ((0 : Int) ≤ x1.toInt) ∧ (x1.toInt ≤ 49)) (hp1 : ((a 134).getD x1.toNatClampNeg 0).toInt = 7) (hp2 : ((0 : Int) ≤ (i 7457).toInt) ∧ (((i 7457).toInt + 3) ≤ 900)) : km 13 211 [.ref 116, .int x1, .int 1, .int x3] (ks i a q r) (kVI yw211_116_l11_K7 i a q r (fun v i1 a1 q1 r1 => ((i1 7457).toInt = ((i 7457).toInt + 3)) ∧ (v = av0_1_7 x1 x3 ∧ trS (a 135) (i 7457) (a1 135) (i1 7457) [10, 20, 1]))) := by
  have hG := kG_self yw211_116_l11_K7 hI hr
  refine km_ofI (q := (mi_h211, mi_c211)) rfl (by decide) (Nat.le_of_ble_eq_true rfl) ?_
  intro P hP
  have r1 : ((0 : Int) ≤ ((a 134).getD x1.toNatClampNeg 0).toInt) ∧ (((a 134).getD x1.toNatClampNeg 0).toInt ≤ 7) := hG.I.2.2.1 134 (x1.toNatClampNeg)
  have fi_7457 : ((0 : Int) ≤ (i 7457).toInt) ∧ ((i 7457).toInt ≤ 1000) := hG.I.1 7457
  refine ft_go mi_k211 5 134 [(0, .ref 116), (1, .int x1), (2, .int 1), (3, .int x3)] [.int 1, .int x1, .ref 116] i a q r (by rfl) ?_
  refine ko_callPI mi_k211.1 (pc := 134) (ls := [(0, .ref 116), (1, .int x1), (2, .int 1), (3, .int x3)]) (st := [.int 1, .int x1, .ref 116]) (h := ks i a q r) (i := (.invokestatic 357, 3, 208, 0, 9, 0, 465)) (mi_k211.2 _ _ (by rfl)) (ft_invS mi_pq208 (by rfl)) (cy := mi_c208) mi_pq208 rfl (kc208_l01 hG.I hG.R ) (by decide) ?_
  intro vg2 hg2
  have z3 : vg2.toInt = 0 := hg2
  have evvg2 := kj_eq (or37 z3) (by decide : (0 : Int32).toInt = 0)
  subst evvg2
  refine ft_go mi_k211 1 138 [(0, .ref 116), (1, .int x1), (2, .int 1), (3, .int x3)] [.int x3, .int 0, .int x1, .ref 116] i a q r (by rfl) ?_
  refine ko_callI mi_k211.1 (pc := 138) (ls := [(0, .ref 116), (1, .int x1), (2, .int 1), (3, .int x3)]) (st := [.int x3, .int 0, .int x1, .ref 116]) (h := ks i a q r) (i := (.invokevirtual 360, 3, 211, 0, 9, 0, 466)) (mi_k211.2 _ _ (by rfl)) (ft_invS mi_pq211 (by rfl)) (cy := mi_c211) mi_pq211 rfl (ke211_116_l10_K7 hG.I hG.R x1 x3 (or25 hp0.1 hp0.2) (or97 hp1 r1.2) (or44 fi_7457.1 hp2.2)) (by decide) ?_
  intro vg4 ig4 ag4 qg4 rg4 kg4 hg4
  have hGg4 := kG_call hG kg4 (by decide +kernel)
  obtain ⟨hg4, og4⟩ := hg4
  have fig4_7457 : ((0 : Int) ≤ (ig4 7457).toInt) ∧ ((ig4 7457).toInt ≤ 1000) := hGg4.I.1 7457
  have z5 : (ig4 7457).toInt = ((i 7457).toInt + 3) := hg4
  have q6 : vg4 = av0_1_7 x1 x3 := og4.1
  have t7 : trS (a 135) (i 7457) (ag4 135) (ig4 7457) [10, 20, 1] := og4.2
  exact ft_ret mi_k211 (by rfl) (hP vg4 _ _ _ _ hGg4 ⟨(or45 z5), ⟨(show vg4 = av0_1_7 x1 x3 from congrArg (fun z0_ => z0_) q6), t7⟩⟩)
def yw211_116_l14_K7 : kW := ([7457], [135], [], [])
set_option maxRecDepth 100000 in
theorem ke211_116_l14_K7 {i : Nat → Int32} {a : Nat → List Int32} {q : Nat → List Int64} {r : Nat → Nat} (hI : kI i a q) (hr : kr r) (x1 : Int32) (x3 : Int32) (hp0 : ((0 : Int) ≤ x1.toInt) ∧ (x1.toInt ≤ 49)) (hp1 : ((a 134).getD x1.toNatClampNeg 0).toInt = 7) (hp2 : ((0 : Int) ≤ (i 7457).toInt) ∧ (((i 7457).toInt + 3) ≤ 900)) : km 15 211 [.ref 116, .int x1, .int 4, .int x3] (ks i a q r) (kVI yw211_116_l14_K7 i a q r (fun v i1 a1 q1 r1 => ((i1 7457).toInt = ((i 7457).toInt + 3)) ∧ (v = av0_1_7 x1 x3 ∧ trS (a 135) (i 7457) (a1 135) (i1 7457) [10, 20, 1]))) := by
  have hG := kG_self yw211_116_l14_K7 hI hr
  refine km_ofI (q := (mi_h211, mi_c211)) rfl (by decide) (Nat.le_of_ble_eq_true rfl) ?_
  intro P hP
  have r1 : ((0 : Int) ≤ ((a 134).getD x1.toNatClampNeg 0).toInt) ∧ (((a 134).getD x1.toNatClampNeg 0).toInt ≤ 7) := hG.I.2.2.1 134 (x1.toNatClampNeg)
  have fi_7457 : ((0 : Int) ≤ (i 7457).toInt) ∧ ((i 7457).toInt ≤ 1000) := hG.I.1 7457
  refine ft_go mi_k211 5 134 [(0, .ref 116), (1, .int x1), (2, .int 4), (3, .int x3)] [.int 4, .int x1, .ref 116] i a q r (by rfl) ?_
  refine ko_callPI mi_k211.1 (pc := 134) (ls := [(0, .ref 116), (1, .int x1), (2, .int 4), (3, .int x3)]) (st := [.int 4, .int x1, .ref 116]) (h := ks i a q r) (i := (.invokestatic 357, 3, 208, 0, 9, 0, 465)) (mi_k211.2 _ _ (by rfl)) (ft_invS mi_pq208 (by rfl)) (cy := mi_c208) mi_pq208 rfl (kc208_l04 hG.I hG.R ) (by decide) ?_
  intro vg2 hg2
  have z3 : vg2.toInt = 1 := hg2
  have evvg2 := kj_eq (or43 z3) (by decide : (1 : Int32).toInt = 1)
  subst evvg2
  refine ft_go mi_k211 1 138 [(0, .ref 116), (1, .int x1), (2, .int 4), (3, .int x3)] [.int x3, .int 1, .int x1, .ref 116] i a q r (by rfl) ?_
  refine ko_callI mi_k211.1 (pc := 138) (ls := [(0, .ref 116), (1, .int x1), (2, .int 4), (3, .int x3)]) (st := [.int x3, .int 1, .int x1, .ref 116]) (h := ks i a q r) (i := (.invokevirtual 360, 3, 211, 0, 9, 0, 466)) (mi_k211.2 _ _ (by rfl)) (ft_invS mi_pq211 (by rfl)) (cy := mi_c211) mi_pq211 rfl (ke211_116_l11_K7 hG.I hG.R x1 x3 (or25 hp0.1 hp0.2) (or97 hp1 r1.2) (or44 fi_7457.1 hp2.2)) (by decide) ?_
  intro vg4 ig4 ag4 qg4 rg4 kg4 hg4
  have hGg4 := kG_call hG kg4 (by decide +kernel)
  obtain ⟨hg4, og4⟩ := hg4
  have fig4_7457 : ((0 : Int) ≤ (ig4 7457).toInt) ∧ ((ig4 7457).toInt ≤ 1000) := hGg4.I.1 7457
  have z5 : (ig4 7457).toInt = ((i 7457).toInt + 3) := hg4
  have q6 : vg4 = av0_1_7 x1 x3 := og4.1
  have t7 : trS (a 135) (i 7457) (ag4 135) (ig4 7457) [10, 20, 1] := og4.2
  exact ft_ret mi_k211 (by rfl) (hP vg4 _ _ _ _ hGg4 ⟨(or45 z5), ⟨(show vg4 = av0_1_7 x1 x3 from congrArg (fun z0_ => z0_) q6), t7⟩⟩)
def yw212_116_l10_K7 : kW := ([7457], [135], [], [])
set_option maxRecDepth 100000 in
theorem ke212_116_l10_K7 {i : Nat → Int32} {a : Nat → List Int32} {q : Nat → List Int64} {r : Nat → Nat} (hI : kI i a q) (hr : kr r) (x1 : Int32) (x3 : Int32) (hp0 : ((0 : Int) ≤ x1.toInt) ∧ (x1.toInt ≤ 49)) (hp1 : ((a 134).getD x1.toNatClampNeg 0).toInt = 7) (hp2 : ((0 : Int) ≤ (i 7457).toInt) ∧ (((i 7457).toInt + 1) ≤ 900)) : km 3 212 [.ref 116, .int x1, .int 0, .int x3] (ks i a q r) (kVI yw212_116_l10_K7 i a q r (fun v i1 a1 q1 r1 => ((i1 7457).toInt = ((i 7457).toInt + 1)) ∧ (v = av0_2_7 x1 x3 ∧ trS (a 135) (i 7457) (a1 135) (i1 7457) [11]))) := by
  have hG := kG_self yw212_116_l10_K7 hI hr
  refine km_ofI (q := (mi_h212, mi_c212)) rfl (by decide) (Nat.le_of_ble_eq_true rfl) ?_
  intro P hP
  have r1 : ((0 : Int) ≤ ((a 134).getD x1.toNatClampNeg 0).toInt) ∧ (((a 134).getD x1.toNatClampNeg 0).toInt ≤ 7) := hG.I.2.2.1 134 (x1.toNatClampNeg)
  have fi_7457 : ((0 : Int) ≤ (i 7457).toInt) ∧ ((i 7457).toInt ≤ 1000) := hG.I.1 7457
  refine ft_go mi_k212 4 39 [(0, .ref 116), (1, .int x1), (2, .int 0), (3, .int x3)] [.int 11, .ref 116] i a q r (by rfl) ?_
  refine ko_callN mi_k212.1 (pc := 39) (ls := [(0, .ref 116), (1, .int x1), (2, .int 0), (3, .int x3)]) (st := [.int 11, .ref 116]) (h := ks i a q r) (i := (.invokevirtual 351, 3, 209, 0, 9, 0, 464)) (mi_k212.2 _ _ (by rfl)) (ft_invS mi_pq209 (by rfl)) (cy := mi_c209) mi_pq209 rfl (ke209_116 hG.I hG.R 11 (or23 fi_7457.1 hp2.2)) (by decide) ?_
  intro ig2 ag2 qg2 rg2 kg2 hg2
  have hGg2 := kG_call hG kg2 (by decide +kernel)
  obtain ⟨hg2, og2⟩ := hg2
  have fig2_7457 : ((0 : Int) ≤ (ig2 7457).toInt) ∧ ((ig2 7457).toInt ≤ 1000) := hGg2.I.1 7457
  have z3 : (ig2 7457).toInt = ((i 7457).toInt + 1) := hg2
  have t4 : trS (a 135) (i 7457) (ag2 135) (ig2 7457) [11] := og2
  refine ft_go mi_k212 3 45 [(0, .ref 116), (1, .int x1), (2, .int 0), (3, .int x3)] [.int (x3 ^^^ x1)] ig2 ag2 qg2 rg2 (by rfl) ?_
  exact ft_ret mi_k212 (by rfl) (hP (x3 ^^^ x1) _ _ _ _ hGg2 ⟨(or24 z3), ⟨(show (x3 ^^^ x1) = av0_2_7 x1 x3 from rfl), t4⟩⟩)
def yw212_116_l11_K7 : kW := ([7457], [135], [], [])
set_option maxRecDepth 100000 in
theorem ke212_116_l11_K7 {i : Nat → Int32} {a : Nat → List Int32} {q : Nat → List Int64} {r : Nat → Nat} (hI : kI i a q) (hr : kr r) (x1 : Int32) (x3 : Int32) (hp0 : ((0 : Int) ≤ x1.toInt) ∧ (x1.toInt ≤ 49)) (hp1 : ((a 134).getD x1.toNatClampNeg 0).toInt = 7) (hp2 : ((0 : Int) ≤ (i 7457).toInt) ∧ (((i 7457).toInt + 1) ≤ 900)) : km 5 212 [.ref 116, .int x1, .int 1, .int x3] (ks i a q r) (kVI yw212_116_l11_K7 i a q r (fun v i1 a1 q1 r1 => ((i1 7457).toInt = ((i 7457).toInt + 1)) ∧ (v = av0_2_7 x1 x3 ∧ trS (a 135) (i 7457) (a1 135) (i1 7457) [11]))) := by
  have hG := kG_self yw212_116_l11_K7 hI hr
  refine km_ofI (q := (mi_h212, mi_c212)) rfl (by decide) (Nat.le_of_ble_eq_true rfl) ?_
  intro P hP
  have r1 : ((0 : Int) ≤ ((a 134).getD x1.toNatClampNeg 0).toInt) ∧ (((a 134).getD x1.toNatClampNeg 0).toInt ≤ 7) := hG.I.2.2.1 134 (x1.toNatClampNeg)
  have fi_7457 : ((0 : Int) ≤ (i 7457).toInt) ∧ ((i 7457).toInt ≤ 1000) := hG.I.1 7457
  refine ft_go mi_k212 5 96 [(0, .ref 116), (1, .int x1), (2, .int 1), (3, .int x3)] [.int 1, .int x1, .ref 116] i a q r (by rfl) ?_
  refine ko_callPI mi_k212.1 (pc := 96) (ls := [(0, .ref 116), (1, .int x1), (2, .int 1), (3, .int x3)]) (st := [.int 1, .int x1, .ref 116]) (h := ks i a q r) (i := (.invokestatic 357, 3, 208, 0, 9, 0, 465)) (mi_k212.2 _ _ (by rfl)) (ft_invS mi_pq208 (by rfl)) (cy := mi_c208) mi_pq208 rfl (kc208_l01 hG.I hG.R ) (by decide) ?_
  intro vg2 hg2
  have z3 : vg2.toInt = 0 := hg2
  have evvg2 := kj_eq (or37 z3) (by decide : (0 : Int32).toInt = 0)
  subst evvg2
  refine ft_go mi_k212 1 100 [(0, .ref 116), (1, .int x1), (2, .int 1), (3, .int x3)] [.int x3, .int 0, .int x1, .ref 116] i a q r (by rfl) ?_
  refine ko_callI mi_k212.1 (pc := 100) (ls := [(0, .ref 116), (1, .int x1), (2, .int 1), (3, .int x3)]) (st := [.int x3, .int 0, .int x1, .ref 116]) (h := ks i a q r) (i := (.invokevirtual 363, 3, 212, 0, 9, 0, 467)) (mi_k212.2 _ _ (by rfl)) (ft_invS mi_pq212 (by rfl)) (cy := mi_c212) mi_pq212 rfl (ke212_116_l10_K7 hG.I hG.R x1 x3 (or25 hp0.1 hp0.2) (or97 hp1 r1.2) (or48 fi_7457.1 hp2.2)) (by decide) ?_
  intro vg4 ig4 ag4 qg4 rg4 kg4 hg4
  have hGg4 := kG_call hG kg4 (by decide +kernel)
  obtain ⟨hg4, og4⟩ := hg4
  have fig4_7457 : ((0 : Int) ≤ (ig4 7457).toInt) ∧ ((ig4 7457).toInt ≤ 1000) := hGg4.I.1 7457
  have z5 : (ig4 7457).toInt = ((i 7457).toInt + 1) := hg4
  have q6 : vg4 = av0_2_7 x1 x3 := og4.1
  have t7 : trS (a 135) (i 7457) (ag4 135) (ig4 7457) [11] := og4.2
  exact ft_ret mi_k212 (by rfl) (hP vg4 _ _ _ _ hGg4 ⟨(or24 z5), ⟨(show vg4 = av0_2_7 x1 x3 from congrArg (fun z0_ => z0_) q6), t7⟩⟩)
def yw212_116_l14_K7 : kW := ([7457], [135], [], [])
set_option maxRecDepth 100000 in
theorem ke212_116_l14_K7 {i : Nat → Int32} {a : Nat → List Int32} {q : Nat → List Int64} {r : Nat → Nat} (hI : kI i a q) (hr : kr r) (x1 : Int32) (x3 : Int32) (hp0 : ((0 : Int) ≤ x1.toInt) ∧ (x1.toInt ≤ 49)) (hp1 : ((a 134).getD x1.toNatClampNeg 0).toInt = 7) (hp2 : ((0 : Int) ≤ (i 7457).toInt) ∧ (((i 7457).toInt + 4) ≤ 900)) : km 11 212 [.ref 116, .int x1, .int 4, .int x3] (ks i a q r) (kVI yw212_116_l14_K7 i a q r (fun v i1 a1 q1 r1 => ((i1 7457).toInt = ((i 7457).toInt + 4)) ∧ (v = av4_2_7 x1 x3 ∧ trS (a 135) (i 7457) (a1 135) (i1 7457) [50, 11, 20, 1]))) := by
  have hG := kG_self yw212_116_l14_K7 hI hr
  refine km_ofI (q := (mi_h212, mi_c212)) rfl (by decide) (Nat.le_of_ble_eq_true rfl) ?_
  intro P hP
  have r1 : ((0 : Int) ≤ ((a 134).getD x1.toNatClampNeg 0).toInt) ∧ (((a 134).getD x1.toNatClampNeg 0).toInt ≤ 7) := hG.I.2.2.1 134 (x1.toNatClampNeg)
  have fi_7457 : ((0 : Int) ≤ (i 7457).toInt) ∧ ((i 7457).toInt ≤ 1000) := hG.I.1 7457
  refine ft_go mi_k212 4 65 [(0, .ref 116), (1, .int x1), (2, .int 4), (3, .int x3)] [.int 50, .ref 116] i a q r (by rfl) ?_
  refine ko_callN mi_k212.1 (pc := 65) (ls := [(0, .ref 116), (1, .int x1), (2, .int 4), (3, .int x3)]) (st := [.int 50, .ref 116]) (h := ks i a q r) (i := (.invokevirtual 351, 3, 209, 0, 9, 0, 464)) (mi_k212.2 _ _ (by rfl)) (ft_invS mi_pq209 (by rfl)) (cy := mi_c209) mi_pq209 rfl (ke209_116 hG.I hG.R 50 (or19 fi_7457.1 hp2.2)) (by decide) ?_
  intro ig2 ag2 qg2 rg2 kg2 hg2
  have hGg2 := kG_call hG kg2 (by decide +kernel)
  obtain ⟨hg2, og2⟩ := hg2
  have fig2_7457 : ((0 : Int) ≤ (ig2 7457).toInt) ∧ ((ig2 7457).toInt ≤ 1000) := hGg2.I.1 7457
  have z3 : (ig2 7457).toInt = ((i 7457).toInt + 1) := hg2
  have t4 : trS (a 135) (i 7457) (ag2 135) (ig2 7457) [50] := og2
  refine ft_go mi_k212 4 72 [(0, .ref 116), (1, .int x1), (2, .int 4), (3, .int x3)] [.int x3, .int 1, .int x1, .ref 116] ig2 ag2 qg2 rg2 (by rfl) ?_
  have r5 : ((0 : Int) ≤ ((ag2 134).getD x1.toNatClampNeg 0).toInt) ∧ (((ag2 134).getD x1.toNatClampNeg 0).toInt ≤ 7) := hGg2.I.2.2.1 134 (x1.toNatClampNeg)
  have u6 : ((ag2 134).getD x1.toNatClampNeg 0).toInt = ((a 134).getD x1.toNatClampNeg 0).toInt := congrArg (fun z : List Int32 => (z.getD x1.toNatClampNeg 0).toInt) (kg2.fa 134 rfl)
  refine ko_callI mi_k212.1 (pc := 72) (ls := [(0, .ref 116), (1, .int x1), (2, .int 4), (3, .int x3)]) (st := [.int x3, .int 1, .int x1, .ref 116]) (h := ks ig2 ag2 qg2 rg2) (i := (.invokevirtual 363, 3, 212, 0, 9, 0, 467)) (mi_k212.2 _ _ (by rfl)) (ft_invS mi_pq212 (by rfl)) (cy := mi_c212) mi_pq212 rfl (ke212_116_l11_K7 hGg2.I hGg2.R x1 x3 (or25 hp0.1 hp0.2) (or96 hp1 r5.2 u6) (or76 fig2_7457.1 hp2.2 z3)) (by decide) ?_
  intro vg7 ig7 ag7 qg7 rg7 kg7 hg7
  have hGg7 := kG_call hGg2 kg7 (by decide +kernel)
  obtain ⟨hg7, og7⟩ := hg7
  have fig7_7457 : ((0 : Int) ≤ (ig7 7457).toInt) ∧ ((ig7 7457).toInt ≤ 1000) := hGg7.I.1 7457
  have z8 : (ig7 7457).toInt = ((ig2 7457).toInt + 1) := hg7
  have q9 : vg7 = av0_2_7 x1 x3 := og7.1
  have t10 : trS (ag2 135) (ig2 7457) (ag7 135) (ig7 7457) [11] := og7.2
  refine ft_go mi_k212 7 86 [(4, .int vg7), (0, .ref 116), (1, .int x1), (2, .int 4), (3, .int x3)] [.int x1, .ref 134, .int x1, .ref 116, .int vg7] ig7 ag7 qg7 rg7 (by rfl) ?_
  refine ko_iald3 mi_k212.1 (n := 50) (c := 50) (ax := (0, 0, 0, 0, 0)) (mi_k212.2 _ _ (by rfl)) (by rfl) (ksG134 _ _ _ _) (hGg7.I.2.1 134) rfl (or14 hp0.1) (or20 hp0.2) ?_
  have r11 : ((0 : Int) ≤ ((ag7 134).getD x1.toNatClampNeg 0).toInt) ∧ (((ag7 134).getD x1.toNatClampNeg 0).toInt ≤ 7) := hGg7.I.2.2.1 134 (x1.toNatClampNeg)
  have u12 : ((ag7 134).getD x1.toNatClampNeg 0).toInt = ((ag2 134).getD x1.toNatClampNeg 0).toInt := congrArg (fun z : List Int32 => (z.getD x1.toNatClampNeg 0).toInt) (kg7.fa 134 rfl)
  refine ko_eq (x1 := (87, [(4, .int vg7), (0, .ref 116), (1, .int x1), (2, .int 4), (3, .int x3)], [.int 7, .int x1, .ref 116, .int vg7], (0, 0), ks ig7 ag7 qg7 rg7)) (by rw [(kj_eq (or98 hp1 r11.2 u12 u6) (by decide) : ((ag7 134).getD x1.toNatClampNeg 0) = 7)]) ?_
  refine ft_go mi_k212 1 88 [(4, .int vg7), (0, .ref 116), (1, .int x1), (2, .int 4), (3, .int x3)] [.int 2, .int 7, .int x1, .ref 116, .int vg7] ig7 ag7 qg7 rg7 (by rfl) ?_
  refine ko_callI mi_k212.1 (pc := 88) (ls := [(4, .int vg7), (0, .ref 116), (1, .int x1), (2, .int 4), (3, .int x3)]) (st := [.int 2, .int 7, .int x1, .ref 116, .int vg7]) (h := ks ig7 ag7 qg7 rg7) (i := (.invokevirtual 354, 3, 210, 0, 9, 0, 463)) (mi_k212.2 _ _ (by rfl)) (ft_invS mi_pq210 (by rfl)) (cy := mi_c210) mi_pq210 rfl (ke210_116_l17_K7 hGg7.I hGg7.R x1 2 (or25 hp0.1 hp0.2) (or98 hp1 r11.2 u12 u6) (or77 fig7_7457.1 hp2.2 z3 z8)) (by decide) ?_
  intro vg13 ig13 ag13 qg13 rg13 kg13 hg13
  have hGg13 := kG_call hGg7 kg13 (by decide +kernel)
  obtain ⟨hg13, og13⟩ := hg13
  have fig13_7457 : ((0 : Int) ≤ (ig13 7457).toInt) ∧ ((ig13 7457).toInt ≤ 1000) := hGg13.I.1 7457
  have z14 : (ig13 7457).toInt = ((ig7 7457).toInt + 2) := hg13
  have q15 : vg13 = av1_0_7 x1 (2 : Int32) := og13.1
  have t16 : trS (ag7 135) (ig7 7457) (ag13 135) (ig13 7457) [20, 1] := og13.2
  have b17 : ((-2147483648 : Int) ≤ vg7.toInt) ∧ (vg7.toInt ≤ 2147483647) := kd_bd vg7
  have b18 : ((-2147483648 : Int) ≤ vg13.toInt) ∧ (vg13.toInt ≤ 2147483647) := kd_bd vg13
  refine ft_go mi_k212 1 92 [(4, .int vg7), (0, .ref 116), (1, .int x1), (2, .int 4), (3, .int x3)] [.int (vg7 - vg13)] ig13 ag13 qg13 rg13 (by rfl) ?_
  exact ft_ret mi_k212 (by rfl) (hP (vg7 - vg13) _ _ _ _ hGg13 ⟨(or78 z14 z3 z8), ⟨(show (vg7 - vg13) = av4_2_7 x1 x3 from by rw [q9, q15]; rfl), (tr_app (es := [50, 11, 20, 1]) (tr_app (es := [50, 11]) t4 t10 (by rfl)) t16 (by rfl))⟩⟩)
def yw212_116_l17_K7 : kW := ([7457], [135], [], [])
