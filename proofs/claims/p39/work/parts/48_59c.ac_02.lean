set_option maxRecDepth 100000 in
theorem ke212_116_l17_K7 {i : Nat → Int32} {a : Nat → List Int32} {q : Nat → List Int64} {r : Nat → Nat} (hI : kI i a q) (hr : kr r) (x1 : Int32) (x3 : Int32) (hp0 : ((0 : Int) ≤ x1.toInt) ∧ (x1.toInt ≤ 49)) (hp1 : ((a 134).getD x1.toNatClampNeg 0).toInt = 7) (hp2 : ((0 : Int) ≤ (i 7457).toInt) ∧ (((i 7457).toInt + 4) ≤ 900)) : km 13 212 [.ref 116, .int x1, .int 7, .int x3] (ks i a q r) (kVI yw212_116_l17_K7 i a q r (fun v i1 a1 q1 r1 => ((i1 7457).toInt = ((i 7457).toInt + 4)) ∧ (v = av4_2_7 x1 x3 ∧ trS (a 135) (i 7457) (a1 135) (i1 7457) [50, 11, 20, 1]))) := by
  have hG := kG_self yw212_116_l17_K7 hI hr
  refine km_ofI (q := (mi_h212, mi_c212)) rfl (by decide) (Nat.le_of_ble_eq_true rfl) ?_
  intro P hP
  have r1 : ((0 : Int) ≤ ((a 134).getD x1.toNatClampNeg 0).toInt) ∧ (((a 134).getD x1.toNatClampNeg 0).toInt ≤ 7) := hG.I.2.2.1 134 (x1.toNatClampNeg)
  have fi_7457 : ((0 : Int) ≤ (i 7457).toInt) ∧ ((i 7457).toInt ≤ 1000) := hG.I.1 7457
  refine ft_go mi_k212 5 96 [(0, .ref 116), (1, .int x1), (2, .int 7), (3, .int x3)] [.int 7, .int x1, .ref 116] i a q r (by rfl) ?_
  refine ko_callPI mi_k212.1 (pc := 96) (ls := [(0, .ref 116), (1, .int x1), (2, .int 7), (3, .int x3)]) (st := [.int 7, .int x1, .ref 116]) (h := ks i a q r) (i := (.invokestatic 357, 3, 208, 0, 9, 0, 465)) (mi_k212.2 _ _ (by rfl)) (ft_invS mi_pq208 (by rfl)) (cy := mi_c208) mi_pq208 rfl (kc208_l07 hG.I hG.R ) (by decide) ?_
  intro vg2 hg2
  have z3 : vg2.toInt = 4 := hg2
  have evvg2 := kj_eq (or71 z3) (by decide : (4 : Int32).toInt = 4)
  subst evvg2
  refine ft_go mi_k212 1 100 [(0, .ref 116), (1, .int x1), (2, .int 7), (3, .int x3)] [.int x3, .int 4, .int x1, .ref 116] i a q r (by rfl) ?_
  refine ko_callI mi_k212.1 (pc := 100) (ls := [(0, .ref 116), (1, .int x1), (2, .int 7), (3, .int x3)]) (st := [.int x3, .int 4, .int x1, .ref 116]) (h := ks i a q r) (i := (.invokevirtual 363, 3, 212, 0, 9, 0, 467)) (mi_k212.2 _ _ (by rfl)) (ft_invS mi_pq212 (by rfl)) (cy := mi_c212) mi_pq212 rfl (ke212_116_l14_K7 hG.I hG.R x1 x3 (or25 hp0.1 hp0.2) (or97 hp1 r1.2) (or86 fi_7457.1 hp2.2)) (by decide) ?_
  intro vg4 ig4 ag4 qg4 rg4 kg4 hg4
  have hGg4 := kG_call hG kg4 (by decide +kernel)
  obtain ⟨hg4, og4⟩ := hg4
  have fig4_7457 : ((0 : Int) ≤ (ig4 7457).toInt) ∧ ((ig4 7457).toInt ≤ 1000) := hGg4.I.1 7457
  have z5 : (ig4 7457).toInt = ((i 7457).toInt + 4) := hg4
  have q6 : vg4 = av4_2_7 x1 x3 := og4.1
  have t7 : trS (a 135) (i 7457) (ag4 135) (ig4 7457) [50, 11, 20, 1] := og4.2
  exact ft_ret mi_k212 (by rfl) (hP vg4 _ _ _ _ hGg4 ⟨(or87 z5), ⟨(show vg4 = av4_2_7 x1 x3 from congrArg (fun z0_ => z0_) q6), t7⟩⟩)
def yw211_116_l17_K7 : kW := ([7457], [135], [], [])
set_option maxRecDepth 100000 in
theorem ke211_116_l17_K7 {i : Nat → Int32} {a : Nat → List Int32} {q : Nat → List Int64} {r : Nat → Nat} (hI : kI i a q) (hr : kr r) (x1 : Int32) (x3 : Int32) (hp0 : ((0 : Int) ≤ x1.toInt) ∧ (x1.toInt ≤ 49)) (hp1 : ((a 134).getD x1.toNatClampNeg 0).toInt = 7) (hp2 : ((0 : Int) ≤ (i 7457).toInt) ∧ (((i 7457).toInt + 8) ≤ 900)) : km 17 211 [.ref 116, .int x1, .int 7, .int x3] (ks i a q r) (kVI yw211_116_l17_K7 i a q r (fun v i1 a1 q1 r1 => ((i1 7457).toInt = ((i 7457).toInt + 8)) ∧ (v = av7_1_7 x1 x3 ∧ trS (a 135) (i 7457) (a1 135) (i1 7457) [80, 10, 20, 1, 50, 11, 20, 1]))) := by
  have hG := kG_self yw211_116_l17_K7 hI hr
  refine km_ofI (q := (mi_h211, mi_c211)) rfl (by decide) (Nat.le_of_ble_eq_true rfl) ?_
  intro P hP
  have r1 : ((0 : Int) ≤ ((a 134).getD x1.toNatClampNeg 0).toInt) ∧ (((a 134).getD x1.toNatClampNeg 0).toInt ≤ 7) := hG.I.2.2.1 134 (x1.toNatClampNeg)
  have fi_7457 : ((0 : Int) ≤ (i 7457).toInt) ∧ ((i 7457).toInt ≤ 1000) := hG.I.1 7457
  refine ft_go mi_k211 4 103 [(0, .ref 116), (1, .int x1), (2, .int 7), (3, .int x3)] [.int 80, .ref 116] i a q r (by rfl) ?_
  refine ko_callN mi_k211.1 (pc := 103) (ls := [(0, .ref 116), (1, .int x1), (2, .int 7), (3, .int x3)]) (st := [.int 80, .ref 116]) (h := ks i a q r) (i := (.invokevirtual 351, 3, 209, 0, 9, 0, 464)) (mi_k211.2 _ _ (by rfl)) (ft_invS mi_pq209 (by rfl)) (cy := mi_c209) mi_pq209 rfl (ke209_116 hG.I hG.R 80 (or69 fi_7457.1 hp2.2)) (by decide) ?_
  intro ig2 ag2 qg2 rg2 kg2 hg2
  have hGg2 := kG_call hG kg2 (by decide +kernel)
  obtain ⟨hg2, og2⟩ := hg2
  have fig2_7457 : ((0 : Int) ≤ (ig2 7457).toInt) ∧ ((ig2 7457).toInt ≤ 1000) := hGg2.I.1 7457
  have z3 : (ig2 7457).toInt = ((i 7457).toInt + 1) := hg2
  have t4 : trS (a 135) (i 7457) (ag2 135) (ig2 7457) [80] := og2
  refine ft_go mi_k211 4 110 [(0, .ref 116), (1, .int x1), (2, .int 7), (3, .int x3)] [.int x3, .int 4, .int x1, .ref 116] ig2 ag2 qg2 rg2 (by rfl) ?_
  have r5 : ((0 : Int) ≤ ((ag2 134).getD x1.toNatClampNeg 0).toInt) ∧ (((ag2 134).getD x1.toNatClampNeg 0).toInt ≤ 7) := hGg2.I.2.2.1 134 (x1.toNatClampNeg)
  have u6 : ((ag2 134).getD x1.toNatClampNeg 0).toInt = ((a 134).getD x1.toNatClampNeg 0).toInt := congrArg (fun z : List Int32 => (z.getD x1.toNatClampNeg 0).toInt) (kg2.fa 134 rfl)
  refine ko_callI mi_k211.1 (pc := 110) (ls := [(0, .ref 116), (1, .int x1), (2, .int 7), (3, .int x3)]) (st := [.int x3, .int 4, .int x1, .ref 116]) (h := ks ig2 ag2 qg2 rg2) (i := (.invokevirtual 360, 3, 211, 0, 9, 0, 466)) (mi_k211.2 _ _ (by rfl)) (ft_invS mi_pq211 (by rfl)) (cy := mi_c211) mi_pq211 rfl (ke211_116_l14_K7 hGg2.I hGg2.R x1 x3 (or25 hp0.1 hp0.2) (or96 hp1 r5.2 u6) (or74 fig2_7457.1 hp2.2 z3)) (by decide) ?_
  intro vg7 ig7 ag7 qg7 rg7 kg7 hg7
  have hGg7 := kG_call hGg2 kg7 (by decide +kernel)
  obtain ⟨hg7, og7⟩ := hg7
  have fig7_7457 : ((0 : Int) ≤ (ig7 7457).toInt) ∧ ((ig7 7457).toInt ≤ 1000) := hGg7.I.1 7457
  have z8 : (ig7 7457).toInt = ((ig2 7457).toInt + 3) := hg7
  have q9 : vg7 = av0_1_7 x1 x3 := og7.1
  have t10 : trS (ag2 135) (ig2 7457) (ag7 135) (ig7 7457) [10, 20, 1] := og7.2
  refine ft_go mi_k211 7 124 [(4, .int vg7), (0, .ref 116), (1, .int x1), (2, .int 7), (3, .int x3)] [.int x1, .ref 134, .int x1, .ref 116, .int vg7] ig7 ag7 qg7 rg7 (by rfl) ?_
  refine ko_iald3 mi_k211.1 (n := 50) (c := 50) (ax := (0, 0, 0, 0, 0)) (mi_k211.2 _ _ (by rfl)) (by rfl) (ksG134 _ _ _ _) (hGg7.I.2.1 134) rfl (or14 hp0.1) (or20 hp0.2) ?_
  have r11 : ((0 : Int) ≤ ((ag7 134).getD x1.toNatClampNeg 0).toInt) ∧ (((ag7 134).getD x1.toNatClampNeg 0).toInt ≤ 7) := hGg7.I.2.2.1 134 (x1.toNatClampNeg)
  have u12 : ((ag7 134).getD x1.toNatClampNeg 0).toInt = ((ag2 134).getD x1.toNatClampNeg 0).toInt := congrArg (fun z : List Int32 => (z.getD x1.toNatClampNeg 0).toInt) (kg7.fa 134 rfl)
  refine ko_eq (x1 := (125, [(4, .int vg7), (0, .ref 116), (1, .int x1), (2, .int 7), (3, .int x3)], [.int 7, .int x1, .ref 116, .int vg7], (0, 0), ks ig7 ag7 qg7 rg7)) (by rw [(kj_eq (or98 hp1 r11.2 u12 u6) (by decide) : ((ag7 134).getD x1.toNatClampNeg 0) = 7)]) ?_
  refine ft_go mi_k211 1 126 [(4, .int vg7), (0, .ref 116), (1, .int x1), (2, .int 7), (3, .int x3)] [.int 2, .int 7, .int x1, .ref 116, .int vg7] ig7 ag7 qg7 rg7 (by rfl) ?_
  refine ko_callI mi_k211.1 (pc := 126) (ls := [(4, .int vg7), (0, .ref 116), (1, .int x1), (2, .int 7), (3, .int x3)]) (st := [.int 2, .int 7, .int x1, .ref 116, .int vg7]) (h := ks ig7 ag7 qg7 rg7) (i := (.invokevirtual 363, 3, 212, 0, 9, 0, 467)) (mi_k211.2 _ _ (by rfl)) (ft_invS mi_pq212 (by rfl)) (cy := mi_c212) mi_pq212 rfl (ke212_116_l17_K7 hGg7.I hGg7.R x1 2 (or25 hp0.1 hp0.2) (or98 hp1 r11.2 u12 u6) (or79 fig7_7457.1 hp2.2 z3 z8)) (by decide) ?_
  intro vg13 ig13 ag13 qg13 rg13 kg13 hg13
  have hGg13 := kG_call hGg7 kg13 (by decide +kernel)
  obtain ⟨hg13, og13⟩ := hg13
  have fig13_7457 : ((0 : Int) ≤ (ig13 7457).toInt) ∧ ((ig13 7457).toInt ≤ 1000) := hGg13.I.1 7457
  have z14 : (ig13 7457).toInt = ((ig7 7457).toInt + 4) := hg13
  have q15 : vg13 = av4_2_7 x1 (2 : Int32) := og13.1
  have t16 : trS (ag7 135) (ig7 7457) (ag13 135) (ig13 7457) [50, 11, 20, 1] := og13.2
  have b17 : ((-2147483648 : Int) ≤ vg7.toInt) ∧ (vg7.toInt ≤ 2147483647) := kd_bd vg7
  have b18 : ((-2147483648 : Int) ≤ vg13.toInt) ∧ (vg13.toInt ≤ 2147483647) := kd_bd vg13
  refine ft_go mi_k211 1 130 [(4, .int vg7), (0, .ref 116), (1, .int x1), (2, .int 7), (3, .int x3)] [.int (vg7 + vg13)] ig13 ag13 qg13 rg13 (by rfl) ?_
  exact ft_ret mi_k211 (by rfl) (hP (vg7 + vg13) _ _ _ _ hGg13 ⟨(or80 z14 z3 z8), ⟨(show (vg7 + vg13) = av7_1_7 x1 x3 from by rw [q9, q15]; rfl), (tr_app (es := [80, 10, 20, 1, 50, 11, 20, 1]) (tr_app (es := [80, 10, 20, 1]) t4 t10 (by rfl)) t16 (by rfl))⟩⟩)
def yw213_116_l10_K7 : kW := ([7457], [135], [], [])
set_option maxRecDepth 100000 in
theorem ke213_116_l10_K7 {i : Nat → Int32} {a : Nat → List Int32} {q : Nat → List Int64} {r : Nat → Nat} (hI : kI i a q) (hr : kr r) (x1 : Int32) (x3 : Int32) (hp0 : ((0 : Int) ≤ x1.toInt) ∧ (x1.toInt ≤ 49)) (hp1 : ((a 134).getD x1.toNatClampNeg 0).toInt = 7) (hp2 : ((0 : Int) ≤ (i 7457).toInt) ∧ (((i 7457).toInt + 13) ≤ 900)) : km 19 213 [.ref 116, .int x1, .int 0, .int x3] (ks i a q r) (kVI yw213_116_l10_K7 i a q r (fun v i1 a1 q1 r1 => ((i1 7457).toInt = ((i 7457).toInt + 13)) ∧ (v = av0_3_7 x1 x3 ∧ trS (a 135) (i 7457) (a1 135) (i1 7457) [2, 80, 10, 20, 1, 50, 11, 20, 1, 50, 11, 20, 1]))) := by
  have hG := kG_self yw213_116_l10_K7 hI hr
  refine km_ofI (q := (mi_h213, mi_c213)) rfl (by decide) (Nat.le_of_ble_eq_true rfl) ?_
  intro P hP
  have r1 : ((0 : Int) ≤ ((a 134).getD x1.toNatClampNeg 0).toInt) ∧ (((a 134).getD x1.toNatClampNeg 0).toInt ≤ 7) := hG.I.2.2.1 134 (x1.toNatClampNeg)
  have fi_7457 : ((0 : Int) ≤ (i 7457).toInt) ∧ ((i 7457).toInt ≤ 1000) := hG.I.1 7457
  refine ft_go mi_k213 4 38 [(0, .ref 116), (1, .int x1), (2, .int 0), (3, .int x3)] [.int 2, .ref 116] i a q r (by rfl) ?_
  refine ko_callN mi_k213.1 (pc := 38) (ls := [(0, .ref 116), (1, .int x1), (2, .int 0), (3, .int x3)]) (st := [.int 2, .ref 116]) (h := ks i a q r) (i := (.invokevirtual 351, 3, 209, 0, 9, 0, 464)) (mi_k213.2 _ _ (by rfl)) (ft_invS mi_pq209 (by rfl)) (cy := mi_c209) mi_pq209 rfl (ke209_116 hG.I hG.R 2 (or95 fi_7457.1 hp2.2)) (by decide) ?_
  intro ig2 ag2 qg2 rg2 kg2 hg2
  have hGg2 := kG_call hG kg2 (by decide +kernel)
  obtain ⟨hg2, og2⟩ := hg2
  have fig2_7457 : ((0 : Int) ≤ (ig2 7457).toInt) ∧ ((ig2 7457).toInt ≤ 1000) := hGg2.I.1 7457
  have z3 : (ig2 7457).toInt = ((i 7457).toInt + 1) := hg2
  have t4 : trS (a 135) (i 7457) (ag2 135) (ig2 7457) [2] := og2
  refine ft_go mi_k213 5 48 [(0, .ref 116), (1, .int x1), (2, .int 0), (3, .int x3)] [.int x1, .ref 134, .int x1, .ref 116] ig2 ag2 qg2 rg2 (by rfl) ?_
  refine ko_iald3 mi_k213.1 (n := 50) (c := 50) (ax := (0, 0, 0, 0, 0)) (mi_k213.2 _ _ (by rfl)) (by rfl) (ksG134 _ _ _ _) (hGg2.I.2.1 134) rfl (or14 hp0.1) (or20 hp0.2) ?_
  have r5 : ((0 : Int) ≤ ((ag2 134).getD x1.toNatClampNeg 0).toInt) ∧ (((ag2 134).getD x1.toNatClampNeg 0).toInt ≤ 7) := hGg2.I.2.2.1 134 (x1.toNatClampNeg)
  have u6 : ((ag2 134).getD x1.toNatClampNeg 0).toInt = ((a 134).getD x1.toNatClampNeg 0).toInt := congrArg (fun z : List Int32 => (z.getD x1.toNatClampNeg 0).toInt) (kg2.fa 134 rfl)
  refine ko_eq (x1 := (49, [(0, .ref 116), (1, .int x1), (2, .int 0), (3, .int x3)], [.int 7, .int x1, .ref 116], (0, 0), ks ig2 ag2 qg2 rg2)) (by rw [(kj_eq (or96 hp1 r5.2 u6) (by decide) : ((ag2 134).getD x1.toNatClampNeg 0) = 7)]) ?_
  refine ft_go mi_k213 1 50 [(0, .ref 116), (1, .int x1), (2, .int 0), (3, .int x3)] [.int x3, .int 7, .int x1, .ref 116] ig2 ag2 qg2 rg2 (by rfl) ?_
  refine ko_callI mi_k213.1 (pc := 50) (ls := [(0, .ref 116), (1, .int x1), (2, .int 0), (3, .int x3)]) (st := [.int x3, .int 7, .int x1, .ref 116]) (h := ks ig2 ag2 qg2 rg2) (i := (.invokevirtual 360, 3, 211, 0, 9, 0, 466)) (mi_k213.2 _ _ (by rfl)) (ft_invS mi_pq211 (by rfl)) (cy := mi_c211) mi_pq211 rfl (ke211_116_l17_K7 hGg2.I hGg2.R x1 x3 (or25 hp0.1 hp0.2) (or96 hp1 r5.2 u6) (or99 fig2_7457.1 hp2.2 z3)) (by decide) ?_
  intro vg7 ig7 ag7 qg7 rg7 kg7 hg7
  have hGg7 := kG_call hGg2 kg7 (by decide +kernel)
  obtain ⟨hg7, og7⟩ := hg7
  have fig7_7457 : ((0 : Int) ≤ (ig7 7457).toInt) ∧ ((ig7 7457).toInt ≤ 1000) := hGg7.I.1 7457
  have z8 : (ig7 7457).toInt = ((ig2 7457).toInt + 8) := hg7
  have q9 : vg7 = av7_1_7 x1 x3 := og7.1
  have t10 : trS (ag2 135) (ig2 7457) (ag7 135) (ig7 7457) [80, 10, 20, 1, 50, 11, 20, 1] := og7.2
  refine ft_go mi_k213 7 64 [(4, .int vg7), (0, .ref 116), (1, .int x1), (2, .int 0), (3, .int x3)] [.int x1, .ref 134, .int x1, .ref 116, .int vg7] ig7 ag7 qg7 rg7 (by rfl) ?_
  refine ko_iald3 mi_k213.1 (n := 50) (c := 50) (ax := (0, 0, 0, 0, 0)) (mi_k213.2 _ _ (by rfl)) (by rfl) (ksG134 _ _ _ _) (hGg7.I.2.1 134) rfl (or14 hp0.1) (or20 hp0.2) ?_
  have r11 : ((0 : Int) ≤ ((ag7 134).getD x1.toNatClampNeg 0).toInt) ∧ (((ag7 134).getD x1.toNatClampNeg 0).toInt ≤ 7) := hGg7.I.2.2.1 134 (x1.toNatClampNeg)
  have u12 : ((ag7 134).getD x1.toNatClampNeg 0).toInt = ((ag2 134).getD x1.toNatClampNeg 0).toInt := congrArg (fun z : List Int32 => (z.getD x1.toNatClampNeg 0).toInt) (kg7.fa 134 rfl)
  refine ko_eq (x1 := (65, [(4, .int vg7), (0, .ref 116), (1, .int x1), (2, .int 0), (3, .int x3)], [.int 7, .int x1, .ref 116, .int vg7], (0, 0), ks ig7 ag7 qg7 rg7)) (by rw [(kj_eq (or98 hp1 r11.2 u12 u6) (by decide) : ((ag7 134).getD x1.toNatClampNeg 0) = 7)]) ?_
  refine ft_go mi_k213 1 66 [(4, .int vg7), (0, .ref 116), (1, .int x1), (2, .int 0), (3, .int x3)] [.int 1, .int 7, .int x1, .ref 116, .int vg7] ig7 ag7 qg7 rg7 (by rfl) ?_
  refine ko_callI mi_k213.1 (pc := 66) (ls := [(4, .int vg7), (0, .ref 116), (1, .int x1), (2, .int 0), (3, .int x3)]) (st := [.int 1, .int 7, .int x1, .ref 116, .int vg7]) (h := ks ig7 ag7 qg7 rg7) (i := (.invokevirtual 363, 3, 212, 0, 9, 0, 467)) (mi_k213.2 _ _ (by rfl)) (ft_invS mi_pq212 (by rfl)) (cy := mi_c212) mi_pq212 rfl (ke212_116_l17_K7 hGg7.I hGg7.R x1 1 (or25 hp0.1 hp0.2) (or98 hp1 r11.2 u12 u6) (or100 fig7_7457.1 hp2.2 z3 z8)) (by decide) ?_
  intro vg13 ig13 ag13 qg13 rg13 kg13 hg13
  have hGg13 := kG_call hGg7 kg13 (by decide +kernel)
  obtain ⟨hg13, og13⟩ := hg13
  have fig13_7457 : ((0 : Int) ≤ (ig13 7457).toInt) ∧ ((ig13 7457).toInt ≤ 1000) := hGg13.I.1 7457
  have z14 : (ig13 7457).toInt = ((ig7 7457).toInt + 4) := hg13
  have q15 : vg13 = av4_2_7 x1 (1 : Int32) := og13.1
  have t16 : trS (ag7 135) (ig7 7457) (ag13 135) (ig13 7457) [50, 11, 20, 1] := og13.2
  have b17 : ((-2147483648 : Int) ≤ vg7.toInt) ∧ (vg7.toInt ≤ 2147483647) := kd_bd vg7
  have b18 : ((-2147483648 : Int) ≤ vg13.toInt) ∧ (vg13.toInt ≤ 2147483647) := kd_bd vg13
  refine ft_go mi_k213 1 70 [(4, .int vg7), (0, .ref 116), (1, .int x1), (2, .int 0), (3, .int x3)] [.int (vg7 - vg13)] ig13 ag13 qg13 rg13 (by rfl) ?_
  exact ft_ret mi_k213 (by rfl) (hP (vg7 - vg13) _ _ _ _ hGg13 ⟨(or101 z14 z3 z8), ⟨(show (vg7 - vg13) = av0_3_7 x1 x3 from by rw [q9, q15]; rfl), (tr_app (es := [2, 80, 10, 20, 1, 50, 11, 20, 1, 50, 11, 20, 1]) (tr_app (es := [2, 80, 10, 20, 1, 50, 11, 20, 1]) t4 t10 (by rfl)) t16 (by rfl))⟩⟩)
def yw213_116_l11_K7 : kW := ([7457], [135], [], [])
set_option maxRecDepth 100000 in
theorem ke213_116_l11_K7 {i : Nat → Int32} {a : Nat → List Int32} {q : Nat → List Int64} {r : Nat → Nat} (hI : kI i a q) (hr : kr r) (x1 : Int32) (x3 : Int32) (hp0 : ((0 : Int) ≤ x1.toInt) ∧ (x1.toInt ≤ 49)) (hp1 : ((a 134).getD x1.toNatClampNeg 0).toInt = 7) (hp2 : ((0 : Int) ≤ (i 7457).toInt) ∧ (((i 7457).toInt + 13) ≤ 900)) : km 21 213 [.ref 116, .int x1, .int 1, .int x3] (ks i a q r) (kVI yw213_116_l11_K7 i a q r (fun v i1 a1 q1 r1 => ((i1 7457).toInt = ((i 7457).toInt + 13)) ∧ (v = av0_3_7 x1 x3 ∧ trS (a 135) (i 7457) (a1 135) (i1 7457) [2, 80, 10, 20, 1, 50, 11, 20, 1, 50, 11, 20, 1]))) := by
  have hG := kG_self yw213_116_l11_K7 hI hr
  refine km_ofI (q := (mi_h213, mi_c213)) rfl (by decide) (Nat.le_of_ble_eq_true rfl) ?_
  intro P hP
  have r1 : ((0 : Int) ≤ ((a 134).getD x1.toNatClampNeg 0).toInt) ∧ (((a 134).getD x1.toNatClampNeg 0).toInt ≤ 7) := hG.I.2.2.1 134 (x1.toNatClampNeg)
  have fi_7457 : ((0 : Int) ≤ (i 7457).toInt) ∧ ((i 7457).toInt ≤ 1000) := hG.I.1 7457
  refine ft_go mi_k213 5 106 [(0, .ref 116), (1, .int x1), (2, .int 1), (3, .int x3)] [.int 1, .int x1, .ref 116] i a q r (by rfl) ?_
  refine ko_callPI mi_k213.1 (pc := 106) (ls := [(0, .ref 116), (1, .int x1), (2, .int 1), (3, .int x3)]) (st := [.int 1, .int x1, .ref 116]) (h := ks i a q r) (i := (.invokestatic 357, 3, 208, 0, 9, 0, 465)) (mi_k213.2 _ _ (by rfl)) (ft_invS mi_pq208 (by rfl)) (cy := mi_c208) mi_pq208 rfl (kc208_l01 hG.I hG.R ) (by decide) ?_
  intro vg2 hg2
  have z3 : vg2.toInt = 0 := hg2
  have evvg2 := kj_eq (or37 z3) (by decide : (0 : Int32).toInt = 0)
  subst evvg2
  refine ft_go mi_k213 1 110 [(0, .ref 116), (1, .int x1), (2, .int 1), (3, .int x3)] [.int x3, .int 0, .int x1, .ref 116] i a q r (by rfl) ?_
  refine ko_callI mi_k213.1 (pc := 110) (ls := [(0, .ref 116), (1, .int x1), (2, .int 1), (3, .int x3)]) (st := [.int x3, .int 0, .int x1, .ref 116]) (h := ks i a q r) (i := (.invokevirtual 366, 3, 213, 0, 9, 0, 468)) (mi_k213.2 _ _ (by rfl)) (ft_invS mi_pq213 (by rfl)) (cy := mi_c213) mi_pq213 rfl (ke213_116_l10_K7 hG.I hG.R x1 x3 (or25 hp0.1 hp0.2) (or97 hp1 r1.2) (or102 fi_7457.1 hp2.2)) (by decide) ?_
  intro vg4 ig4 ag4 qg4 rg4 kg4 hg4
  have hGg4 := kG_call hG kg4 (by decide +kernel)
  obtain ⟨hg4, og4⟩ := hg4
  have fig4_7457 : ((0 : Int) ≤ (ig4 7457).toInt) ∧ ((ig4 7457).toInt ≤ 1000) := hGg4.I.1 7457
  have z5 : (ig4 7457).toInt = ((i 7457).toInt + 13) := hg4
  have q6 : vg4 = av0_3_7 x1 x3 := og4.1
  have t7 : trS (a 135) (i 7457) (ag4 135) (ig4 7457) [2, 80, 10, 20, 1, 50, 11, 20, 1, 50, 11, 20, 1] := og4.2
  exact ft_ret mi_k213 (by rfl) (hP vg4 _ _ _ _ hGg4 ⟨(or103 z5), ⟨(show vg4 = av0_3_7 x1 x3 from congrArg (fun z0_ => z0_) q6), t7⟩⟩)
def yw213_116_l14_K7 : kW := ([7457], [135], [], [])
set_option maxRecDepth 100000 in
theorem ke213_116_l14_K7 {i : Nat → Int32} {a : Nat → List Int32} {q : Nat → List Int64} {r : Nat → Nat} (hI : kI i a q) (hr : kr r) (x1 : Int32) (x3 : Int32) (hp0 : ((0 : Int) ≤ x1.toInt) ∧ (x1.toInt ≤ 49)) (hp1 : ((a 134).getD x1.toNatClampNeg 0).toInt = 7) (hp2 : ((0 : Int) ≤ (i 7457).toInt) ∧ (((i 7457).toInt + 13) ≤ 900)) : km 23 213 [.ref 116, .int x1, .int 4, .int x3] (ks i a q r) (kVI yw213_116_l14_K7 i a q r (fun v i1 a1 q1 r1 => ((i1 7457).toInt = ((i 7457).toInt + 13)) ∧ (v = av0_3_7 x1 x3 ∧ trS (a 135) (i 7457) (a1 135) (i1 7457) [2, 80, 10, 20, 1, 50, 11, 20, 1, 50, 11, 20, 1]))) := by
  have hG := kG_self yw213_116_l14_K7 hI hr
  refine km_ofI (q := (mi_h213, mi_c213)) rfl (by decide) (Nat.le_of_ble_eq_true rfl) ?_
  intro P hP
  have r1 : ((0 : Int) ≤ ((a 134).getD x1.toNatClampNeg 0).toInt) ∧ (((a 134).getD x1.toNatClampNeg 0).toInt ≤ 7) := hG.I.2.2.1 134 (x1.toNatClampNeg)
  have fi_7457 : ((0 : Int) ≤ (i 7457).toInt) ∧ ((i 7457).toInt ≤ 1000) := hG.I.1 7457
  refine ft_go mi_k213 5 106 [(0, .ref 116), (1, .int x1), (2, .int 4), (3, .int x3)] [.int 4, .int x1, .ref 116] i a q r (by rfl) ?_
  refine ko_callPI mi_k213.1 (pc := 106) (ls := [(0, .ref 116), (1, .int x1), (2, .int 4), (3, .int x3)]) (st := [.int 4, .int x1, .ref 116]) (h := ks i a q r) (i := (.invokestatic 357, 3, 208, 0, 9, 0, 465)) (mi_k213.2 _ _ (by rfl)) (ft_invS mi_pq208 (by rfl)) (cy := mi_c208) mi_pq208 rfl (kc208_l04 hG.I hG.R ) (by decide) ?_
  intro vg2 hg2
  have z3 : vg2.toInt = 1 := hg2
  have evvg2 := kj_eq (or43 z3) (by decide : (1 : Int32).toInt = 1)
  subst evvg2
  refine ft_go mi_k213 1 110 [(0, .ref 116), (1, .int x1), (2, .int 4), (3, .int x3)] [.int x3, .int 1, .int x1, .ref 116] i a q r (by rfl) ?_
  refine ko_callI mi_k213.1 (pc := 110) (ls := [(0, .ref 116), (1, .int x1), (2, .int 4), (3, .int x3)]) (st := [.int x3, .int 1, .int x1, .ref 116]) (h := ks i a q r) (i := (.invokevirtual 366, 3, 213, 0, 9, 0, 468)) (mi_k213.2 _ _ (by rfl)) (ft_invS mi_pq213 (by rfl)) (cy := mi_c213) mi_pq213 rfl (ke213_116_l11_K7 hG.I hG.R x1 x3 (or25 hp0.1 hp0.2) (or97 hp1 r1.2) (or102 fi_7457.1 hp2.2)) (by decide) ?_
  intro vg4 ig4 ag4 qg4 rg4 kg4 hg4
  have hGg4 := kG_call hG kg4 (by decide +kernel)
  obtain ⟨hg4, og4⟩ := hg4
  have fig4_7457 : ((0 : Int) ≤ (ig4 7457).toInt) ∧ ((ig4 7457).toInt ≤ 1000) := hGg4.I.1 7457
  have z5 : (ig4 7457).toInt = ((i 7457).toInt + 13) := hg4
  have q6 : vg4 = av0_3_7 x1 x3 := og4.1
  have t7 : trS (a 135) (i 7457) (ag4 135) (ig4 7457) [2, 80, 10, 20, 1, 50, 11, 20, 1, 50, 11, 20, 1] := og4.2
  exact ft_ret mi_k213 (by rfl) (hP vg4 _ _ _ _ hGg4 ⟨(or103 z5), ⟨(show vg4 = av0_3_7 x1 x3 from congrArg (fun z0_ => z0_) q6), t7⟩⟩)
def yw213_116_l17_K7 : kW := ([7457], [135], [], [])
set_option maxRecDepth 100000 in
theorem ke213_116_l17_K7 {i : Nat → Int32} {a : Nat → List Int32} {q : Nat → List Int64} {r : Nat → Nat} (hI : kI i a q) (hr : kr r) (x1 : Int32) (x3 : Int32) (hp0 : ((0 : Int) ≤ x1.toInt) ∧ (x1.toInt ≤ 49)) (hp1 : ((a 134).getD x1.toNatClampNeg 0).toInt = 7) (hp2 : ((0 : Int) ≤ (i 7457).toInt) ∧ (((i 7457).toInt + 14) ≤ 900)) : km 25 213 [.ref 116, .int x1, .int 7, .int x3] (ks i a q r) (kVI yw213_116_l17_K7 i a q r (fun v i1 a1 q1 r1 => ((i1 7457).toInt = ((i 7457).toInt + 14)) ∧ (v = av7_3_7 x1 x3 ∧ trS (a 135) (i 7457) (a1 135) (i1 7457) [81, 2, 80, 10, 20, 1, 50, 11, 20, 1, 50, 11, 20, 1]))) := by
  have hG := kG_self yw213_116_l17_K7 hI hr
  refine km_ofI (q := (mi_h213, mi_c213)) rfl (by decide) (Nat.le_of_ble_eq_true rfl) ?_
  intro P hP
  have r1 : ((0 : Int) ≤ ((a 134).getD x1.toNatClampNeg 0).toInt) ∧ (((a 134).getD x1.toNatClampNeg 0).toInt ≤ 7) := hG.I.2.2.1 134 (x1.toNatClampNeg)
  have fi_7457 : ((0 : Int) ≤ (i 7457).toInt) ∧ ((i 7457).toInt ≤ 1000) := hG.I.1 7457
  refine ft_go mi_k213 4 90 [(0, .ref 116), (1, .int x1), (2, .int 7), (3, .int x3)] [.int 81, .ref 116] i a q r (by rfl) ?_
  refine ko_callN mi_k213.1 (pc := 90) (ls := [(0, .ref 116), (1, .int x1), (2, .int 7), (3, .int x3)]) (st := [.int 81, .ref 116]) (h := ks i a q r) (i := (.invokevirtual 351, 3, 209, 0, 9, 0, 464)) (mi_k213.2 _ _ (by rfl)) (ft_invS mi_pq209 (by rfl)) (cy := mi_c209) mi_pq209 rfl (ke209_116 hG.I hG.R 81 (or94 fi_7457.1 hp2.2)) (by decide) ?_
  intro ig2 ag2 qg2 rg2 kg2 hg2
  have hGg2 := kG_call hG kg2 (by decide +kernel)
  obtain ⟨hg2, og2⟩ := hg2
  have fig2_7457 : ((0 : Int) ≤ (ig2 7457).toInt) ∧ ((ig2 7457).toInt ≤ 1000) := hGg2.I.1 7457
  have z3 : (ig2 7457).toInt = ((i 7457).toInt + 1) := hg2
  have t4 : trS (a 135) (i 7457) (ag2 135) (ig2 7457) [81] := og2
  refine ft_go mi_k213 4 97 [(0, .ref 116), (1, .int x1), (2, .int 7), (3, .int x3)] [.int x3, .int 4, .int x1, .ref 116] ig2 ag2 qg2 rg2 (by rfl) ?_
  have r5 : ((0 : Int) ≤ ((ag2 134).getD x1.toNatClampNeg 0).toInt) ∧ (((ag2 134).getD x1.toNatClampNeg 0).toInt ≤ 7) := hGg2.I.2.2.1 134 (x1.toNatClampNeg)
  have u6 : ((ag2 134).getD x1.toNatClampNeg 0).toInt = ((a 134).getD x1.toNatClampNeg 0).toInt := congrArg (fun z : List Int32 => (z.getD x1.toNatClampNeg 0).toInt) (kg2.fa 134 rfl)
  refine ko_callI mi_k213.1 (pc := 97) (ls := [(0, .ref 116), (1, .int x1), (2, .int 7), (3, .int x3)]) (st := [.int x3, .int 4, .int x1, .ref 116]) (h := ks ig2 ag2 qg2 rg2) (i := (.invokevirtual 366, 3, 213, 0, 9, 0, 468)) (mi_k213.2 _ _ (by rfl)) (ft_invS mi_pq213 (by rfl)) (cy := mi_c213) mi_pq213 rfl (ke213_116_l14_K7 hGg2.I hGg2.R x1 x3 (or25 hp0.1 hp0.2) (or96 hp1 r5.2 u6) (or104 fig2_7457.1 hp2.2 z3)) (by decide) ?_
  intro vg7 ig7 ag7 qg7 rg7 kg7 hg7
  have hGg7 := kG_call hGg2 kg7 (by decide +kernel)
  obtain ⟨hg7, og7⟩ := hg7
  have fig7_7457 : ((0 : Int) ≤ (ig7 7457).toInt) ∧ ((ig7 7457).toInt ≤ 1000) := hGg7.I.1 7457
  have z8 : (ig7 7457).toInt = ((ig2 7457).toInt + 13) := hg7
  have q9 : vg7 = av0_3_7 x1 x3 := og7.1
  have t10 : trS (ag2 135) (ig2 7457) (ag7 135) (ig7 7457) [2, 80, 10, 20, 1, 50, 11, 20, 1, 50, 11, 20, 1] := og7.2
  have b11 : ((-2147483648 : Int) ≤ vg7.toInt) ∧ (vg7.toInt ≤ 2147483647) := kd_bd vg7
  refine ft_go mi_k213 2 102 [(0, .ref 116), (1, .int x1), (2, .int 7), (3, .int x3)] [.int (vg7 - 1)] ig7 ag7 qg7 rg7 (by rfl) ?_
  exact ft_ret mi_k213 (by rfl) (hP (vg7 - 1) _ _ _ _ hGg7 ⟨(or105 z3 z8), ⟨(show (vg7 - 1) = av7_3_7 x1 x3 from congrArg (fun z0_ => (z0_ - 1)) q9), (tr_app (es := [81, 2, 80, 10, 20, 1, 50, 11, 20, 1, 50, 11, 20, 1]) t4 t10 (by rfl))⟩⟩)
def yw215_116 : kW := ([7457], [135], [], [])
set_option maxRecDepth 100000 in
theorem ke215_116 {i : Nat → Int32} {a : Nat → List Int32} {q : Nat → List Int64} {r : Nat → Nat} (hI : kI i a q) (hr : kr r) (x1 : Int32) (x2 : Int32) (x3 : Int32) : km 27 215 [.ref 116, .int x1, .int x2, .int x3] (ks i a q r) (kVI yw215_116 i a q r (fun v i1 a1 q1 r1 => (True) ∧ (((0 ≤ x1.toInt ∧ x1.toInt < (i 7455).toInt ∧ 0 ≤ x2.toInt ∧ x2.toInt ≤ 3) → v = avV ((a 134).getD x1.toNatClampNeg 0) x2 x1 x3 ∧ trS (a 135) 0 (a1 135) (i1 7457) (trC ((a 134).getD x1.toNatClampNeg 0) x2)) ∧ (¬ (0 ≤ x1.toInt ∧ x1.toInt < (i 7455).toInt ∧ 0 ≤ x2.toInt ∧ x2.toInt ≤ 3) → v = 0 ∧ a1 135 = a 135 ∧ i1 7457 = 0)))) := by
  have hG := kG_self yw215_116 hI hr
  refine km_ofI (q := (mi_h215, mi_c215)) rfl (by decide) (Nat.le_of_ble_eq_true rfl) ?_
  intro P hP
  have hJ1 := kG_i hG 7457 rfl (v := 0) ⟨(or0 kor0), (or1 kor0)⟩
  have fi_7455 : ((0 : Int) ≤ (i 7455).toInt) ∧ ((i 7455).toInt ≤ 50) := hJ1.I.1 7455
  have s2 : ((i 7455) - 1).toInt = (i 7455).toInt - (1 : Int32).toInt := kd_sub (or2 fi_7455.1 kor1) (or3 fi_7455.2 kor1)
  refine ft_go mi_k215 9 13 [(0, .ref 116), (1, .int x1), (2, .int x2), (3, .int x3)] [.int ((i 7455) - 1), .int 0, .int x1] (ku i 7457 0) a q r (by rfl) ?_
  refine ko_callPI mi_k215.1 (pc := 13) (ls := [(0, .ref 116), (1, .int x1), (2, .int x2), (3, .int x3)]) (st := [.int ((i 7455) - 1), .int 0, .int x1]) (h := ks (ku i 7457 0) a q r) (i := (.invokestatic 119, 3, 131, 0, 9, 0, 379)) (mi_k215.2 _ _ (by rfl)) (ft_invS mi_pq131 (by rfl)) (cy := mi_c131) mi_pq131 rfl (kc131 hJ1.I hJ1.R x1 0 ((i 7455) - 1)) (by decide) ?_
  intro vg3 hg3
  rcases hg3 with ⟨eg3, hg3⟩ | ⟨eg3, hg3⟩
  ·
    subst eg3
    have z4 : ((0 : Int32).toInt ≤ x1.toInt) ∧ (x1.toInt ≤ ((i 7455) - 1).toInt) := hg3
    refine ft_go mi_k215 4 22 [(0, .ref 116), (1, .int x1), (2, .int x2), (3, .int x3)] [.int 3, .int 0, .int x2] (ku i 7457 0) a q r (by rfl) ?_
    refine ko_callPI mi_k215.1 (pc := 22) (ls := [(0, .ref 116), (1, .int x1), (2, .int x2), (3, .int x3)]) (st := [.int 3, .int 0, .int x2]) (h := ks (ku i 7457 0) a q r) (i := (.invokestatic 119, 3, 131, 0, 9, 0, 379)) (mi_k215.2 _ _ (by rfl)) (ft_invS mi_pq131 (by rfl)) (cy := mi_c131) mi_pq131 rfl (kc131 hJ1.I hJ1.R x2 0 3) (by decide) ?_
    intro vg5 hg5
    rcases hg5 with ⟨eg5, hg5⟩ | ⟨eg5, hg5⟩
    ·
      subst eg5
      have z6 : ((0 : Int32).toInt ≤ x2.toInt) ∧ (x2.toInt ≤ (3 : Int32).toInt) := hg5
      refine ft_go mi_k215 4 35 [(0, .ref 116), (1, .int x1), (2, .int x2), (3, .int x3)] [.int x1, .ref 134] (ku i 7457 0) a q r (by rfl) ?_
      refine ko_iald3 mi_k215.1 (n := 50) (c := 50) (ax := (0, 0, 0, 0, 0)) (mi_k215.2 _ _ (by rfl)) (by rfl) (ksG134 _ _ _ _) (hJ1.I.2.1 134) rfl (or4 z4.1 kor0) (or5 fi_7455.2 s2 z4.2 kor1) ?_
      have r7 : ((0 : Int) ≤ ((a 134).getD x1.toNatClampNeg 0).toInt) ∧ (((a 134).getD x1.toNatClampNeg 0).toInt ≤ 7) := hJ1.I.2.2.1 134 (x1.toNatClampNeg)
      refine ft_go mi_k215 2 39 [(4, .int ((a 134).getD x1.toNatClampNeg 0)), (0, .ref 116), (1, .int x1), (2, .int x2), (3, .int x3)] [.int x2] (ku i 7457 0) a q r (by rfl) ?_
      refine ft_if mi_k215 (x2 != 0) 53 42 [(4, .int ((a 134).getD x1.toNatClampNeg 0)), (0, .ref 116), (1, .int x1), (2, .int x2), (3, .int x3)] [] (by rfl) (fun c => ?_) (fun c => ?_)
      ·
        have c8 : x2.toInt ≠ (0 : Int32).toInt := kd_ne c; clear c
        refine ft_go mi_k215 2 55 [(4, .int ((a 134).getD x1.toNatClampNeg 0)), (0, .ref 116), (1, .int x1), (2, .int x2), (3, .int x3)] [.int 1, .int x2] (ku i 7457 0) a q r (by rfl) ?_
        refine ft_if mi_k215 (x2 != 1) 69 58 [(4, .int ((a 134).getD x1.toNatClampNeg 0)), (0, .ref 116), (1, .int x1), (2, .int x2), (3, .int x3)] [] (by rfl) (fun c => ?_) (fun c => ?_)
        ·
          have c9 : x2.toInt ≠ (1 : Int32).toInt := kd_ne c; clear c
          refine ft_go mi_k215 2 71 [(4, .int ((a 134).getD x1.toNatClampNeg 0)), (0, .ref 116), (1, .int x1), (2, .int x2), (3, .int x3)] [.int 2, .int x2] (ku i 7457 0) a q r (by rfl) ?_
          refine ft_if mi_k215 (x2 != 2) 85 74 [(4, .int ((a 134).getD x1.toNatClampNeg 0)), (0, .ref 116), (1, .int x1), (2, .int x2), (3, .int x3)] [] (by rfl) (fun c => ?_) (fun c => ?_)
          ·
            have c10 : x2.toInt ≠ (2 : Int32).toInt := kd_ne c; clear c
            refine ft_go mi_k215 4 90 [(4, .int ((a 134).getD x1.toNatClampNeg 0)), (0, .ref 116), (1, .int x1), (2, .int x2), (3, .int x3)] [.int x3, .int ((a 134).getD x1.toNatClampNeg 0), .int x1, .ref 116] (ku i 7457 0) a q r (by rfl) ?_
            by_cases w11 : ((a 134).getD x1.toNatClampNeg 0).toInt = 0
            ·
              refine ko_eq (x1 := (90, [(4, .int ((a 134).getD x1.toNatClampNeg 0)), (0, .ref 116), (1, .int x1), (2, .int x2), (3, .int x3)], [.int x3, .int 0, .int x1, .ref 116], (0, 0), ks (ku i 7457 0) a q r)) (by rw [(kj_eq w11 (by decide) : ((a 134).getD x1.toNatClampNeg 0) = 0)]) ?_
              refine ko_callI mi_k215.1 (pc := 90) (ls := [(4, .int ((a 134).getD x1.toNatClampNeg 0)), (0, .ref 116), (1, .int x1), (2, .int x2), (3, .int x3)]) (st := [.int x3, .int 0, .int x1, .ref 116]) (h := ks (ku i 7457 0) a q r) (i := (.invokevirtual 366, 3, 213, 0, 9, 0, 468)) (mi_k215.2 _ _ (by rfl)) (ft_invS mi_pq213 (by rfl)) (cy := mi_c213) mi_pq213 rfl (ke213_116_l10_K0 hJ1.I hJ1.R x1 x3 (or32 fi_7455.2 s2 z4.1 z4.2 kor1 kor0) (or33 r7.1 w11) (or34 kor0)) (by decide) ?_
              intro vg12 ig12 ag12 qg12 rg12 kg12 hg12
              have hGg12 := kG_call hJ1 kg12 (by decide +kernel)
              obtain ⟨hg12, og12⟩ := hg12
              have fig12_7457 : ((0 : Int) ≤ (ig12 7457).toInt) ∧ ((ig12 7457).toInt ≤ 1000) := hGg12.I.1 7457
              have z13 : (ig12 7457).toInt = ((0 : Int32).toInt + 4) := hg12
              have q14 : vg12 = av0_3_0 x1 x3 := og12.1
              have t15 : trS (a 135) (0 : Int32) (ag12 135) (ig12 7457) [2, 10, 1, 11] := og12.2
              exact ft_ret mi_k215 (by rfl) (hP vg12 _ _ _ _ hGg12 ⟨trivial, ⟨fun _ => ⟨((q14).trans (avV_0_3 (or33 r7.1 w11) (or35 c10 c8 c9 z6.1 z6.2 kor2 kor0 kor1 kor3)).symm), tr_cs t15 (trC_0_3 (or33 r7.1 w11) (or35 c10 c8 c9 z6.1 z6.2 kor2 kor0 kor1 kor3))⟩, fun h => absurd (or36 s2 z4.1 z4.2 z6.1 z6.2 kor1 kor0 kor3) h⟩⟩)
            by_cases w16 : ((a 134).getD x1.toNatClampNeg 0).toInt = 1
            ·
              refine ko_eq (x1 := (90, [(4, .int ((a 134).getD x1.toNatClampNeg 0)), (0, .ref 116), (1, .int x1), (2, .int x2), (3, .int x3)], [.int x3, .int 1, .int x1, .ref 116], (0, 0), ks (ku i 7457 0) a q r)) (by rw [(kj_eq w16 (by decide) : ((a 134).getD x1.toNatClampNeg 0) = 1)]) ?_
              refine ko_callI mi_k215.1 (pc := 90) (ls := [(4, .int ((a 134).getD x1.toNatClampNeg 0)), (0, .ref 116), (1, .int x1), (2, .int x2), (3, .int x3)]) (st := [.int x3, .int 1, .int x1, .ref 116]) (h := ks (ku i 7457 0) a q r) (i := (.invokevirtual 366, 3, 213, 0, 9, 0, 468)) (mi_k215.2 _ _ (by rfl)) (ft_invS mi_pq213 (by rfl)) (cy := mi_c213) mi_pq213 rfl (ke213_116_l11_K1 hJ1.I hJ1.R x1 x3 (or32 fi_7455.2 s2 z4.1 z4.2 kor1 kor0) (or43 w16) (or53 kor0)) (by decide) ?_
              intro vg17 ig17 ag17 qg17 rg17 kg17 hg17
              have hGg17 := kG_call hJ1 kg17 (by decide +kernel)
              obtain ⟨hg17, og17⟩ := hg17
              have fig17_7457 : ((0 : Int) ≤ (ig17 7457).toInt) ∧ ((ig17 7457).toInt ≤ 1000) := hGg17.I.1 7457
              have z18 : (ig17 7457).toInt = ((0 : Int32).toInt + 5) := hg17
              have q19 : vg17 = av0_3_1 x1 x3 := og17.1
              have t20 : trS (a 135) (0 : Int32) (ag17 135) (ig17 7457) [2, 10, 20, 1, 11] := og17.2
              exact ft_ret mi_k215 (by rfl) (hP vg17 _ _ _ _ hGg17 ⟨trivial, ⟨fun _ => ⟨((q19).trans (avV_1_3 (or43 w16) (or35 c10 c8 c9 z6.1 z6.2 kor2 kor0 kor1 kor3)).symm), tr_cs t20 (trC_1_3 (or43 w16) (or35 c10 c8 c9 z6.1 z6.2 kor2 kor0 kor1 kor3))⟩, fun h => absurd (or36 s2 z4.1 z4.2 z6.1 z6.2 kor1 kor0 kor3) h⟩⟩)
            by_cases w21 : ((a 134).getD x1.toNatClampNeg 0).toInt = 2
            ·
              refine ko_eq (x1 := (90, [(4, .int ((a 134).getD x1.toNatClampNeg 0)), (0, .ref 116), (1, .int x1), (2, .int x2), (3, .int x3)], [.int x3, .int 2, .int x1, .ref 116], (0, 0), ks (ku i 7457 0) a q r)) (by rw [(kj_eq w21 (by decide) : ((a 134).getD x1.toNatClampNeg 0) = 2)]) ?_
              refine ko_callI mi_k215.1 (pc := 90) (ls := [(4, .int ((a 134).getD x1.toNatClampNeg 0)), (0, .ref 116), (1, .int x1), (2, .int x2), (3, .int x3)]) (st := [.int x3, .int 2, .int x1, .ref 116]) (h := ks (ku i 7457 0) a q r) (i := (.invokevirtual 366, 3, 213, 0, 9, 0, 468)) (mi_k215.2 _ _ (by rfl)) (ft_invS mi_pq213 (by rfl)) (cy := mi_c213) mi_pq213 rfl (ke213_116_l12_K2 hJ1.I hJ1.R x1 x3 (or32 fi_7455.2 s2 z4.1 z4.2 kor1 kor0) (or55 w21) (or53 kor0)) (by decide) ?_
              intro vg22 ig22 ag22 qg22 rg22 kg22 hg22
              have hGg22 := kG_call hJ1 kg22 (by decide +kernel)
              obtain ⟨hg22, og22⟩ := hg22
              have fig22_7457 : ((0 : Int) ≤ (ig22 7457).toInt) ∧ ((ig22 7457).toInt ≤ 1000) := hGg22.I.1 7457
              have z23 : (ig22 7457).toInt = ((0 : Int32).toInt + 5) := hg22
              have q24 : vg22 = av0_3_2 x1 x3 := og22.1
              have t25 : trS (a 135) (0 : Int32) (ag22 135) (ig22 7457) [2, 30, 10, 1, 11] := og22.2
              exact ft_ret mi_k215 (by rfl) (hP vg22 _ _ _ _ hGg22 ⟨trivial, ⟨fun _ => ⟨((q24).trans (avV_2_3 (or55 w21) (or35 c10 c8 c9 z6.1 z6.2 kor2 kor0 kor1 kor3)).symm), tr_cs t25 (trC_2_3 (or55 w21) (or35 c10 c8 c9 z6.1 z6.2 kor2 kor0 kor1 kor3))⟩, fun h => absurd (or36 s2 z4.1 z4.2 z6.1 z6.2 kor1 kor0 kor3) h⟩⟩)
            by_cases w26 : ((a 134).getD x1.toNatClampNeg 0).toInt = 3
            ·
              refine ko_eq (x1 := (90, [(4, .int ((a 134).getD x1.toNatClampNeg 0)), (0, .ref 116), (1, .int x1), (2, .int x2), (3, .int x3)], [.int x3, .int 3, .int x1, .ref 116], (0, 0), ks (ku i 7457 0) a q r)) (by rw [(kj_eq w26 (by decide) : ((a 134).getD x1.toNatClampNeg 0) = 3)]) ?_
              refine ko_callI mi_k215.1 (pc := 90) (ls := [(4, .int ((a 134).getD x1.toNatClampNeg 0)), (0, .ref 116), (1, .int x1), (2, .int x2), (3, .int x3)]) (st := [.int x3, .int 3, .int x1, .ref 116]) (h := ks (ku i 7457 0) a q r) (i := (.invokevirtual 366, 3, 213, 0, 9, 0, 468)) (mi_k215.2 _ _ (by rfl)) (ft_invS mi_pq213 (by rfl)) (cy := mi_c213) mi_pq213 rfl (ke213_116_l13_K3 hJ1.I hJ1.R x1 x3 (or32 fi_7455.2 s2 z4.1 z4.2 kor1 kor0) (or59 w26) (or68 kor0)) (by decide) ?_
              intro vg27 ig27 ag27 qg27 rg27 kg27 hg27
              have hGg27 := kG_call hJ1 kg27 (by decide +kernel)
              obtain ⟨hg27, og27⟩ := hg27
              have fig27_7457 : ((0 : Int) ≤ (ig27 7457).toInt) ∧ ((ig27 7457).toInt ≤ 1000) := hGg27.I.1 7457
              have z28 : (ig27 7457).toInt = ((0 : Int32).toInt + 7) := hg27
              have q29 : vg27 = av0_3_3 x1 x3 := og27.1
              have t30 : trS (a 135) (0 : Int32) (ag27 135) (ig27 7457) [2, 41, 30, 10, 1, 40, 11] := og27.2
              exact ft_ret mi_k215 (by rfl) (hP vg27 _ _ _ _ hGg27 ⟨trivial, ⟨fun _ => ⟨((q29).trans (avV_3_3 (or59 w26) (or35 c10 c8 c9 z6.1 z6.2 kor2 kor0 kor1 kor3)).symm), tr_cs t30 (trC_3_3 (or59 w26) (or35 c10 c8 c9 z6.1 z6.2 kor2 kor0 kor1 kor3))⟩, fun h => absurd (or36 s2 z4.1 z4.2 z6.1 z6.2 kor1 kor0 kor3) h⟩⟩)
            by_cases w31 : ((a 134).getD x1.toNatClampNeg 0).toInt = 4
            ·
              refine ko_eq (x1 := (90, [(4, .int ((a 134).getD x1.toNatClampNeg 0)), (0, .ref 116), (1, .int x1), (2, .int x2), (3, .int x3)], [.int x3, .int 4, .int x1, .ref 116], (0, 0), ks (ku i 7457 0) a q r)) (by rw [(kj_eq w31 (by decide) : ((a 134).getD x1.toNatClampNeg 0) = 4)]) ?_
              refine ko_callI mi_k215.1 (pc := 90) (ls := [(4, .int ((a 134).getD x1.toNatClampNeg 0)), (0, .ref 116), (1, .int x1), (2, .int x2), (3, .int x3)]) (st := [.int x3, .int 4, .int x1, .ref 116]) (h := ks (ku i 7457 0) a q r) (i := (.invokevirtual 366, 3, 213, 0, 9, 0, 468)) (mi_k215.2 _ _ (by rfl)) (ft_invS mi_pq213 (by rfl)) (cy := mi_c213) mi_pq213 rfl (ke213_116_l14_K4 hJ1.I hJ1.R x1 x3 (or32 fi_7455.2 s2 z4.1 z4.2 kor1 kor0) (or71 w31) (or83 kor0)) (by decide) ?_
              intro vg32 ig32 ag32 qg32 rg32 kg32 hg32
              have hGg32 := kG_call hJ1 kg32 (by decide +kernel)
              obtain ⟨hg32, og32⟩ := hg32
              have fig32_7457 : ((0 : Int) ≤ (ig32 7457).toInt) ∧ ((ig32 7457).toInt ≤ 1000) := hGg32.I.1 7457
              have z33 : (ig32 7457).toInt = ((0 : Int32).toInt + 8) := hg32
              have q34 : vg32 = av0_3_4 x1 x3 := og32.1
              have t35 : trS (a 135) (0 : Int32) (ag32 135) (ig32 7457) [2, 10, 20, 1, 50, 11, 20, 1] := og32.2
              exact ft_ret mi_k215 (by rfl) (hP vg32 _ _ _ _ hGg32 ⟨trivial, ⟨fun _ => ⟨((q34).trans (avV_4_3 (or71 w31) (or35 c10 c8 c9 z6.1 z6.2 kor2 kor0 kor1 kor3)).symm), tr_cs t35 (trC_4_3 (or71 w31) (or35 c10 c8 c9 z6.1 z6.2 kor2 kor0 kor1 kor3))⟩, fun h => absurd (or36 s2 z4.1 z4.2 z6.1 z6.2 kor1 kor0 kor3) h⟩⟩)
            by_cases w36 : ((a 134).getD x1.toNatClampNeg 0).toInt = 5
            ·
              refine ko_eq (x1 := (90, [(4, .int ((a 134).getD x1.toNatClampNeg 0)), (0, .ref 116), (1, .int x1), (2, .int x2), (3, .int x3)], [.int x3, .int 5, .int x1, .ref 116], (0, 0), ks (ku i 7457 0) a q r)) (by rw [(kj_eq w36 (by decide) : ((a 134).getD x1.toNatClampNeg 0) = 5)]) ?_
              refine ko_callI mi_k215.1 (pc := 90) (ls := [(4, .int ((a 134).getD x1.toNatClampNeg 0)), (0, .ref 116), (1, .int x1), (2, .int x2), (3, .int x3)]) (st := [.int x3, .int 5, .int x1, .ref 116]) (h := ks (ku i 7457 0) a q r) (i := (.invokevirtual 366, 3, 213, 0, 9, 0, 468)) (mi_k215.2 _ _ (by rfl)) (ft_invS mi_pq213 (by rfl)) (cy := mi_c213) mi_pq213 rfl (ke213_116_l15_K5 hJ1.I hJ1.R x1 x3 (or32 fi_7455.2 s2 z4.1 z4.2 kor1 kor0) (or85 w36) (or83 kor0)) (by decide) ?_
              intro vg37 ig37 ag37 qg37 rg37 kg37 hg37
              have hGg37 := kG_call hJ1 kg37 (by decide +kernel)
              obtain ⟨hg37, og37⟩ := hg37
              have fig37_7457 : ((0 : Int) ≤ (ig37 7457).toInt) ∧ ((ig37 7457).toInt ≤ 1000) := hGg37.I.1 7457
              have z38 : (ig37 7457).toInt = ((0 : Int32).toInt + 8) := hg37
              have q39 : vg37 = av5_3_5 x1 x3 := og37.1
              have t40 : trS (a 135) (0 : Int32) (ag37 135) (ig37 7457) [60, 2, 41, 30, 10, 1, 40, 11] := og37.2
              exact ft_ret mi_k215 (by rfl) (hP vg37 _ _ _ _ hGg37 ⟨trivial, ⟨fun _ => ⟨((q39).trans (avV_5_3 (or85 w36) (or35 c10 c8 c9 z6.1 z6.2 kor2 kor0 kor1 kor3)).symm), tr_cs t40 (trC_5_3 (or85 w36) (or35 c10 c8 c9 z6.1 z6.2 kor2 kor0 kor1 kor3))⟩, fun h => absurd (or36 s2 z4.1 z4.2 z6.1 z6.2 kor1 kor0 kor3) h⟩⟩)
            by_cases w41 : ((a 134).getD x1.toNatClampNeg 0).toInt = 6
            ·
              refine ko_eq (x1 := (90, [(4, .int ((a 134).getD x1.toNatClampNeg 0)), (0, .ref 116), (1, .int x1), (2, .int x2), (3, .int x3)], [.int x3, .int 6, .int x1, .ref 116], (0, 0), ks (ku i 7457 0) a q r)) (by rw [(kj_eq w41 (by decide) : ((a 134).getD x1.toNatClampNeg 0) = 6)]) ?_
              refine ko_callI mi_k215.1 (pc := 90) (ls := [(4, .int ((a 134).getD x1.toNatClampNeg 0)), (0, .ref 116), (1, .int x1), (2, .int x2), (3, .int x3)]) (st := [.int x3, .int 6, .int x1, .ref 116]) (h := ks (ku i 7457 0) a q r) (i := (.invokevirtual 366, 3, 213, 0, 9, 0, 468)) (mi_k215.2 _ _ (by rfl)) (ft_invS mi_pq213 (by rfl)) (cy := mi_c213) mi_pq213 rfl (ke213_116_l16_K6 hJ1.I hJ1.R x1 x3 (or32 fi_7455.2 s2 z4.1 z4.2 kor1 kor0) (or92 w41) (or53 kor0)) (by decide) ?_
              intro vg42 ig42 ag42 qg42 rg42 kg42 hg42
              have hGg42 := kG_call hJ1 kg42 (by decide +kernel)
              obtain ⟨hg42, og42⟩ := hg42
              have fig42_7457 : ((0 : Int) ≤ (ig42 7457).toInt) ∧ ((ig42 7457).toInt ≤ 1000) := hGg42.I.1 7457
              have z43 : (ig42 7457).toInt = ((0 : Int32).toInt + 5) := hg42
              have q44 : vg42 = av0_3_6 x1 x3 := og42.1
              have t45 : trS (a 135) (0 : Int32) (ag42 135) (ig42 7457) [2, 10, 70, 1, 11] := og42.2
              exact ft_ret mi_k215 (by rfl) (hP vg42 _ _ _ _ hGg42 ⟨trivial, ⟨fun _ => ⟨((q44).trans (avV_6_3 (or92 w41) (or35 c10 c8 c9 z6.1 z6.2 kor2 kor0 kor1 kor3)).symm), tr_cs t45 (trC_6_3 (or92 w41) (or35 c10 c8 c9 z6.1 z6.2 kor2 kor0 kor1 kor3))⟩, fun h => absurd (or36 s2 z4.1 z4.2 z6.1 z6.2 kor1 kor0 kor3) h⟩⟩)
            by_cases w46 : ((a 134).getD x1.toNatClampNeg 0).toInt = 7
            ·
              refine ko_eq (x1 := (90, [(4, .int ((a 134).getD x1.toNatClampNeg 0)), (0, .ref 116), (1, .int x1), (2, .int x2), (3, .int x3)], [.int x3, .int 7, .int x1, .ref 116], (0, 0), ks (ku i 7457 0) a q r)) (by rw [(kj_eq w46 (by decide) : ((a 134).getD x1.toNatClampNeg 0) = 7)]) ?_
              refine ko_callI mi_k215.1 (pc := 90) (ls := [(4, .int ((a 134).getD x1.toNatClampNeg 0)), (0, .ref 116), (1, .int x1), (2, .int x2), (3, .int x3)]) (st := [.int x3, .int 7, .int x1, .ref 116]) (h := ks (ku i 7457 0) a q r) (i := (.invokevirtual 366, 3, 213, 0, 9, 0, 468)) (mi_k215.2 _ _ (by rfl)) (ft_invS mi_pq213 (by rfl)) (cy := mi_c213) mi_pq213 rfl (ke213_116_l17_K7 hJ1.I hJ1.R x1 x3 (or32 fi_7455.2 s2 z4.1 z4.2 kor1 kor0) (or106 r7.2 w46) (or107 kor0)) (by decide) ?_
              intro vg47 ig47 ag47 qg47 rg47 kg47 hg47
              have hGg47 := kG_call hJ1 kg47 (by decide +kernel)
              obtain ⟨hg47, og47⟩ := hg47
              have fig47_7457 : ((0 : Int) ≤ (ig47 7457).toInt) ∧ ((ig47 7457).toInt ≤ 1000) := hGg47.I.1 7457
              have z48 : (ig47 7457).toInt = ((0 : Int32).toInt + 14) := hg47
              have q49 : vg47 = av7_3_7 x1 x3 := og47.1
              have t50 : trS (a 135) (0 : Int32) (ag47 135) (ig47 7457) [81, 2, 80, 10, 20, 1, 50, 11, 20, 1, 50, 11, 20, 1] := og47.2
              exact ft_ret mi_k215 (by rfl) (hP vg47 _ _ _ _ hGg47 ⟨trivial, ⟨fun _ => ⟨((q49).trans (avV_7_3 (or106 r7.2 w46) (or35 c10 c8 c9 z6.1 z6.2 kor2 kor0 kor1 kor3)).symm), tr_cs t50 (trC_7_3 (or106 r7.2 w46) (or35 c10 c8 c9 z6.1 z6.2 kor2 kor0 kor1 kor3))⟩, fun h => absurd (or36 s2 z4.1 z4.2 z6.1 z6.2 kor1 kor0 kor3) h⟩⟩)
            exact (or108 r7.1 r7.2 w11 w16 w21 w26 w31 w36 w41 w46).elim
          ·
            have c51 : x2.toInt = (2 : Int32).toInt := kd_neF c; clear c
            refine ft_go mi_k215 4 79 [(4, .int ((a 134).getD x1.toNatClampNeg 0)), (0, .ref 116), (1, .int x1), (2, .int x2), (3, .int x3)] [.int x3, .int ((a 134).getD x1.toNatClampNeg 0), .int x1, .ref 116] (ku i 7457 0) a q r (by rfl) ?_
            by_cases w52 : ((a 134).getD x1.toNatClampNeg 0).toInt = 0
            ·
              refine ko_eq (x1 := (79, [(4, .int ((a 134).getD x1.toNatClampNeg 0)), (0, .ref 116), (1, .int x1), (2, .int x2), (3, .int x3)], [.int x3, .int 0, .int x1, .ref 116], (0, 0), ks (ku i 7457 0) a q r)) (by rw [(kj_eq w52 (by decide) : ((a 134).getD x1.toNatClampNeg 0) = 0)]) ?_
              refine ko_callI mi_k215.1 (pc := 79) (ls := [(4, .int ((a 134).getD x1.toNatClampNeg 0)), (0, .ref 116), (1, .int x1), (2, .int x2), (3, .int x3)]) (st := [.int x3, .int 0, .int x1, .ref 116]) (h := ks (ku i 7457 0) a q r) (i := (.invokevirtual 363, 3, 212, 0, 9, 0, 467)) (mi_k215.2 _ _ (by rfl)) (ft_invS mi_pq212 (by rfl)) (cy := mi_c212) mi_pq212 rfl (ke212_116_l10_K0 hJ1.I hJ1.R x1 x3 (or32 fi_7455.2 s2 z4.1 z4.2 kor1 kor0) (or33 r7.1 w52) (or109 kor0)) (by decide) ?_
              intro vg53 ig53 ag53 qg53 rg53 kg53 hg53
              have hGg53 := kG_call hJ1 kg53 (by decide +kernel)
              obtain ⟨hg53, og53⟩ := hg53
              have fig53_7457 : ((0 : Int) ≤ (ig53 7457).toInt) ∧ ((ig53 7457).toInt ≤ 1000) := hGg53.I.1 7457
              have z54 : (ig53 7457).toInt = ((0 : Int32).toInt + 1) := hg53
              have q55 : vg53 = av0_2_0 x1 x3 := og53.1
              have t56 : trS (a 135) (0 : Int32) (ag53 135) (ig53 7457) [11] := og53.2
              refine ft_go mi_k215 1 93 [(4, .int ((a 134).getD x1.toNatClampNeg 0)), (0, .ref 116), (1, .int x1), (2, .int x2), (3, .int x3)] [.int vg53] ig53 ag53 qg53 rg53 (by rfl) ?_
              exact ft_ret mi_k215 (by rfl) (hP vg53 _ _ _ _ hGg53 ⟨trivial, ⟨fun _ => ⟨((q55).trans (avV_0_2 (or33 r7.1 w52) (or110 c51 kor2)).symm), tr_cs t56 (trC_0_2 (or33 r7.1 w52) (or110 c51 kor2))⟩, fun h => absurd (or111 c51 s2 z4.1 z4.2 z6.2 kor2 kor1 kor0 kor3) h⟩⟩)
            by_cases w57 : ((a 134).getD x1.toNatClampNeg 0).toInt = 1
            ·
              refine ko_eq (x1 := (79, [(4, .int ((a 134).getD x1.toNatClampNeg 0)), (0, .ref 116), (1, .int x1), (2, .int x2), (3, .int x3)], [.int x3, .int 1, .int x1, .ref 116], (0, 0), ks (ku i 7457 0) a q r)) (by rw [(kj_eq w57 (by decide) : ((a 134).getD x1.toNatClampNeg 0) = 1)]) ?_
              refine ko_callI mi_k215.1 (pc := 79) (ls := [(4, .int ((a 134).getD x1.toNatClampNeg 0)), (0, .ref 116), (1, .int x1), (2, .int x2), (3, .int x3)]) (st := [.int x3, .int 1, .int x1, .ref 116]) (h := ks (ku i 7457 0) a q r) (i := (.invokevirtual 363, 3, 212, 0, 9, 0, 467)) (mi_k215.2 _ _ (by rfl)) (ft_invS mi_pq212 (by rfl)) (cy := mi_c212) mi_pq212 rfl (ke212_116_l11_K1 hJ1.I hJ1.R x1 x3 (or32 fi_7455.2 s2 z4.1 z4.2 kor1 kor0) (or43 w57) (or109 kor0)) (by decide) ?_
              intro vg58 ig58 ag58 qg58 rg58 kg58 hg58
              have hGg58 := kG_call hJ1 kg58 (by decide +kernel)
              obtain ⟨hg58, og58⟩ := hg58
              have fig58_7457 : ((0 : Int) ≤ (ig58 7457).toInt) ∧ ((ig58 7457).toInt ≤ 1000) := hGg58.I.1 7457
              have z59 : (ig58 7457).toInt = ((0 : Int32).toInt + 1) := hg58
              have q60 : vg58 = av0_2_1 x1 x3 := og58.1
              have t61 : trS (a 135) (0 : Int32) (ag58 135) (ig58 7457) [11] := og58.2
              refine ft_go mi_k215 1 93 [(4, .int ((a 134).getD x1.toNatClampNeg 0)), (0, .ref 116), (1, .int x1), (2, .int x2), (3, .int x3)] [.int vg58] ig58 ag58 qg58 rg58 (by rfl) ?_
              exact ft_ret mi_k215 (by rfl) (hP vg58 _ _ _ _ hGg58 ⟨trivial, ⟨fun _ => ⟨((q60).trans (avV_1_2 (or43 w57) (or110 c51 kor2)).symm), tr_cs t61 (trC_1_2 (or43 w57) (or110 c51 kor2))⟩, fun h => absurd (or111 c51 s2 z4.1 z4.2 z6.2 kor2 kor1 kor0 kor3) h⟩⟩)
            by_cases w62 : ((a 134).getD x1.toNatClampNeg 0).toInt = 2
            ·
              refine ko_eq (x1 := (79, [(4, .int ((a 134).getD x1.toNatClampNeg 0)), (0, .ref 116), (1, .int x1), (2, .int x2), (3, .int x3)], [.int x3, .int 2, .int x1, .ref 116], (0, 0), ks (ku i 7457 0) a q r)) (by rw [(kj_eq w62 (by decide) : ((a 134).getD x1.toNatClampNeg 0) = 2)]) ?_
              refine ko_callI mi_k215.1 (pc := 79) (ls := [(4, .int ((a 134).getD x1.toNatClampNeg 0)), (0, .ref 116), (1, .int x1), (2, .int x2), (3, .int x3)]) (st := [.int x3, .int 2, .int x1, .ref 116]) (h := ks (ku i 7457 0) a q r) (i := (.invokevirtual 363, 3, 212, 0, 9, 0, 467)) (mi_k215.2 _ _ (by rfl)) (ft_invS mi_pq212 (by rfl)) (cy := mi_c212) mi_pq212 rfl (ke212_116_l12_K2 hJ1.I hJ1.R x1 x3 (or32 fi_7455.2 s2 z4.1 z4.2 kor1 kor0) (or55 w62) (or109 kor0)) (by decide) ?_
              intro vg63 ig63 ag63 qg63 rg63 kg63 hg63
              have hGg63 := kG_call hJ1 kg63 (by decide +kernel)
              obtain ⟨hg63, og63⟩ := hg63
              have fig63_7457 : ((0 : Int) ≤ (ig63 7457).toInt) ∧ ((ig63 7457).toInt ≤ 1000) := hGg63.I.1 7457
              have z64 : (ig63 7457).toInt = ((0 : Int32).toInt + 1) := hg63
              have q65 : vg63 = av0_2_2 x1 x3 := og63.1
              have t66 : trS (a 135) (0 : Int32) (ag63 135) (ig63 7457) [11] := og63.2
              refine ft_go mi_k215 1 93 [(4, .int ((a 134).getD x1.toNatClampNeg 0)), (0, .ref 116), (1, .int x1), (2, .int x2), (3, .int x3)] [.int vg63] ig63 ag63 qg63 rg63 (by rfl) ?_
              exact ft_ret mi_k215 (by rfl) (hP vg63 _ _ _ _ hGg63 ⟨trivial, ⟨fun _ => ⟨((q65).trans (avV_2_2 (or55 w62) (or110 c51 kor2)).symm), tr_cs t66 (trC_2_2 (or55 w62) (or110 c51 kor2))⟩, fun h => absurd (or111 c51 s2 z4.1 z4.2 z6.2 kor2 kor1 kor0 kor3) h⟩⟩)
            by_cases w67 : ((a 134).getD x1.toNatClampNeg 0).toInt = 3
            ·
              refine ko_eq (x1 := (79, [(4, .int ((a 134).getD x1.toNatClampNeg 0)), (0, .ref 116), (1, .int x1), (2, .int x2), (3, .int x3)], [.int x3, .int 3, .int x1, .ref 116], (0, 0), ks (ku i 7457 0) a q r)) (by rw [(kj_eq w67 (by decide) : ((a 134).getD x1.toNatClampNeg 0) = 3)]) ?_
              refine ko_callI mi_k215.1 (pc := 79) (ls := [(4, .int ((a 134).getD x1.toNatClampNeg 0)), (0, .ref 116), (1, .int x1), (2, .int x2), (3, .int x3)]) (st := [.int x3, .int 3, .int x1, .ref 116]) (h := ks (ku i 7457 0) a q r) (i := (.invokevirtual 363, 3, 212, 0, 9, 0, 467)) (mi_k215.2 _ _ (by rfl)) (ft_invS mi_pq212 (by rfl)) (cy := mi_c212) mi_pq212 rfl (ke212_116_l13_K3 hJ1.I hJ1.R x1 x3 (or32 fi_7455.2 s2 z4.1 z4.2 kor1 kor0) (or59 w67) (or112 kor0)) (by decide) ?_
              intro vg68 ig68 ag68 qg68 rg68 kg68 hg68
              have hGg68 := kG_call hJ1 kg68 (by decide +kernel)
              obtain ⟨hg68, og68⟩ := hg68
              have fig68_7457 : ((0 : Int) ≤ (ig68 7457).toInt) ∧ ((ig68 7457).toInt ≤ 1000) := hGg68.I.1 7457
              have z69 : (ig68 7457).toInt = ((0 : Int32).toInt + 2) := hg68
              have q70 : vg68 = av3_2_3 x1 x3 := og68.1
              have t71 : trS (a 135) (0 : Int32) (ag68 135) (ig68 7457) [40, 11] := og68.2
              refine ft_go mi_k215 1 93 [(4, .int ((a 134).getD x1.toNatClampNeg 0)), (0, .ref 116), (1, .int x1), (2, .int x2), (3, .int x3)] [.int vg68] ig68 ag68 qg68 rg68 (by rfl) ?_
              exact ft_ret mi_k215 (by rfl) (hP vg68 _ _ _ _ hGg68 ⟨trivial, ⟨fun _ => ⟨((q70).trans (avV_3_2 (or59 w67) (or110 c51 kor2)).symm), tr_cs t71 (trC_3_2 (or59 w67) (or110 c51 kor2))⟩, fun h => absurd (or111 c51 s2 z4.1 z4.2 z6.2 kor2 kor1 kor0 kor3) h⟩⟩)
            by_cases w72 : ((a 134).getD x1.toNatClampNeg 0).toInt = 4
            ·
              refine ko_eq (x1 := (79, [(4, .int ((a 134).getD x1.toNatClampNeg 0)), (0, .ref 116), (1, .int x1), (2, .int x2), (3, .int x3)], [.int x3, .int 4, .int x1, .ref 116], (0, 0), ks (ku i 7457 0) a q r)) (by rw [(kj_eq w72 (by decide) : ((a 134).getD x1.toNatClampNeg 0) = 4)]) ?_
              refine ko_callI mi_k215.1 (pc := 79) (ls := [(4, .int ((a 134).getD x1.toNatClampNeg 0)), (0, .ref 116), (1, .int x1), (2, .int x2), (3, .int x3)]) (st := [.int x3, .int 4, .int x1, .ref 116]) (h := ks (ku i 7457 0) a q r) (i := (.invokevirtual 363, 3, 212, 0, 9, 0, 467)) (mi_k215.2 _ _ (by rfl)) (ft_invS mi_pq212 (by rfl)) (cy := mi_c212) mi_pq212 rfl (ke212_116_l14_K4 hJ1.I hJ1.R x1 x3 (or32 fi_7455.2 s2 z4.1 z4.2 kor1 kor0) (or71 w72) (or34 kor0)) (by decide) ?_
              intro vg73 ig73 ag73 qg73 rg73 kg73 hg73
              have hGg73 := kG_call hJ1 kg73 (by decide +kernel)
              obtain ⟨hg73, og73⟩ := hg73
              have fig73_7457 : ((0 : Int) ≤ (ig73 7457).toInt) ∧ ((ig73 7457).toInt ≤ 1000) := hGg73.I.1 7457
              have z74 : (ig73 7457).toInt = ((0 : Int32).toInt + 4) := hg73
              have q75 : vg73 = av4_2_4 x1 x3 := og73.1
              have t76 : trS (a 135) (0 : Int32) (ag73 135) (ig73 7457) [50, 11, 20, 1] := og73.2
              refine ft_go mi_k215 1 93 [(4, .int ((a 134).getD x1.toNatClampNeg 0)), (0, .ref 116), (1, .int x1), (2, .int x2), (3, .int x3)] [.int vg73] ig73 ag73 qg73 rg73 (by rfl) ?_
              exact ft_ret mi_k215 (by rfl) (hP vg73 _ _ _ _ hGg73 ⟨trivial, ⟨fun _ => ⟨((q75).trans (avV_4_2 (or71 w72) (or110 c51 kor2)).symm), tr_cs t76 (trC_4_2 (or71 w72) (or110 c51 kor2))⟩, fun h => absurd (or111 c51 s2 z4.1 z4.2 z6.2 kor2 kor1 kor0 kor3) h⟩⟩)
            by_cases w77 : ((a 134).getD x1.toNatClampNeg 0).toInt = 5
            ·
              refine ko_eq (x1 := (79, [(4, .int ((a 134).getD x1.toNatClampNeg 0)), (0, .ref 116), (1, .int x1), (2, .int x2), (3, .int x3)], [.int x3, .int 5, .int x1, .ref 116], (0, 0), ks (ku i 7457 0) a q r)) (by rw [(kj_eq w77 (by decide) : ((a 134).getD x1.toNatClampNeg 0) = 5)]) ?_
              refine ko_callI mi_k215.1 (pc := 79) (ls := [(4, .int ((a 134).getD x1.toNatClampNeg 0)), (0, .ref 116), (1, .int x1), (2, .int x2), (3, .int x3)]) (st := [.int x3, .int 5, .int x1, .ref 116]) (h := ks (ku i 7457 0) a q r) (i := (.invokevirtual 363, 3, 212, 0, 9, 0, 467)) (mi_k215.2 _ _ (by rfl)) (ft_invS mi_pq212 (by rfl)) (cy := mi_c212) mi_pq212 rfl (ke212_116_l15_K5 hJ1.I hJ1.R x1 x3 (or32 fi_7455.2 s2 z4.1 z4.2 kor1 kor0) (or85 w77) (or112 kor0)) (by decide) ?_
              intro vg78 ig78 ag78 qg78 rg78 kg78 hg78
              have hGg78 := kG_call hJ1 kg78 (by decide +kernel)
              obtain ⟨hg78, og78⟩ := hg78
              have fig78_7457 : ((0 : Int) ≤ (ig78 7457).toInt) ∧ ((ig78 7457).toInt ≤ 1000) := hGg78.I.1 7457
              have z79 : (ig78 7457).toInt = ((0 : Int32).toInt + 2) := hg78
              have q80 : vg78 = av3_2_5 x1 x3 := og78.1
              have t81 : trS (a 135) (0 : Int32) (ag78 135) (ig78 7457) [40, 11] := og78.2
              refine ft_go mi_k215 1 93 [(4, .int ((a 134).getD x1.toNatClampNeg 0)), (0, .ref 116), (1, .int x1), (2, .int x2), (3, .int x3)] [.int vg78] ig78 ag78 qg78 rg78 (by rfl) ?_
              exact ft_ret mi_k215 (by rfl) (hP vg78 _ _ _ _ hGg78 ⟨trivial, ⟨fun _ => ⟨((q80).trans (avV_5_2 (or85 w77) (or110 c51 kor2)).symm), tr_cs t81 (trC_5_2 (or85 w77) (or110 c51 kor2))⟩, fun h => absurd (or111 c51 s2 z4.1 z4.2 z6.2 kor2 kor1 kor0 kor3) h⟩⟩)
            by_cases w82 : ((a 134).getD x1.toNatClampNeg 0).toInt = 6
            ·
              refine ko_eq (x1 := (79, [(4, .int ((a 134).getD x1.toNatClampNeg 0)), (0, .ref 116), (1, .int x1), (2, .int x2), (3, .int x3)], [.int x3, .int 6, .int x1, .ref 116], (0, 0), ks (ku i 7457 0) a q r)) (by rw [(kj_eq w82 (by decide) : ((a 134).getD x1.toNatClampNeg 0) = 6)]) ?_
              refine ko_callI mi_k215.1 (pc := 79) (ls := [(4, .int ((a 134).getD x1.toNatClampNeg 0)), (0, .ref 116), (1, .int x1), (2, .int x2), (3, .int x3)]) (st := [.int x3, .int 6, .int x1, .ref 116]) (h := ks (ku i 7457 0) a q r) (i := (.invokevirtual 363, 3, 212, 0, 9, 0, 467)) (mi_k215.2 _ _ (by rfl)) (ft_invS mi_pq212 (by rfl)) (cy := mi_c212) mi_pq212 rfl (ke212_116_l16_K6 hJ1.I hJ1.R x1 x3 (or32 fi_7455.2 s2 z4.1 z4.2 kor1 kor0) (or92 w82) (or109 kor0)) (by decide) ?_
              intro vg83 ig83 ag83 qg83 rg83 kg83 hg83
              have hGg83 := kG_call hJ1 kg83 (by decide +kernel)
              obtain ⟨hg83, og83⟩ := hg83
              have fig83_7457 : ((0 : Int) ≤ (ig83 7457).toInt) ∧ ((ig83 7457).toInt ≤ 1000) := hGg83.I.1 7457
              have z84 : (ig83 7457).toInt = ((0 : Int32).toInt + 1) := hg83
              have q85 : vg83 = av0_2_6 x1 x3 := og83.1
              have t86 : trS (a 135) (0 : Int32) (ag83 135) (ig83 7457) [11] := og83.2
              refine ft_go mi_k215 1 93 [(4, .int ((a 134).getD x1.toNatClampNeg 0)), (0, .ref 116), (1, .int x1), (2, .int x2), (3, .int x3)] [.int vg83] ig83 ag83 qg83 rg83 (by rfl) ?_
              exact ft_ret mi_k215 (by rfl) (hP vg83 _ _ _ _ hGg83 ⟨trivial, ⟨fun _ => ⟨((q85).trans (avV_6_2 (or92 w82) (or110 c51 kor2)).symm), tr_cs t86 (trC_6_2 (or92 w82) (or110 c51 kor2))⟩, fun h => absurd (or111 c51 s2 z4.1 z4.2 z6.2 kor2 kor1 kor0 kor3) h⟩⟩)
            by_cases w87 : ((a 134).getD x1.toNatClampNeg 0).toInt = 7
            ·
              refine ko_eq (x1 := (79, [(4, .int ((a 134).getD x1.toNatClampNeg 0)), (0, .ref 116), (1, .int x1), (2, .int x2), (3, .int x3)], [.int x3, .int 7, .int x1, .ref 116], (0, 0), ks (ku i 7457 0) a q r)) (by rw [(kj_eq w87 (by decide) : ((a 134).getD x1.toNatClampNeg 0) = 7)]) ?_
              refine ko_callI mi_k215.1 (pc := 79) (ls := [(4, .int ((a 134).getD x1.toNatClampNeg 0)), (0, .ref 116), (1, .int x1), (2, .int x2), (3, .int x3)]) (st := [.int x3, .int 7, .int x1, .ref 116]) (h := ks (ku i 7457 0) a q r) (i := (.invokevirtual 363, 3, 212, 0, 9, 0, 467)) (mi_k215.2 _ _ (by rfl)) (ft_invS mi_pq212 (by rfl)) (cy := mi_c212) mi_pq212 rfl (ke212_116_l17_K7 hJ1.I hJ1.R x1 x3 (or32 fi_7455.2 s2 z4.1 z4.2 kor1 kor0) (or106 r7.2 w87) (or34 kor0)) (by decide) ?_
              intro vg88 ig88 ag88 qg88 rg88 kg88 hg88
              have hGg88 := kG_call hJ1 kg88 (by decide +kernel)
              obtain ⟨hg88, og88⟩ := hg88
              have fig88_7457 : ((0 : Int) ≤ (ig88 7457).toInt) ∧ ((ig88 7457).toInt ≤ 1000) := hGg88.I.1 7457
              have z89 : (ig88 7457).toInt = ((0 : Int32).toInt + 4) := hg88
              have q90 : vg88 = av4_2_7 x1 x3 := og88.1
              have t91 : trS (a 135) (0 : Int32) (ag88 135) (ig88 7457) [50, 11, 20, 1] := og88.2
              refine ft_go mi_k215 1 93 [(4, .int ((a 134).getD x1.toNatClampNeg 0)), (0, .ref 116), (1, .int x1), (2, .int x2), (3, .int x3)] [.int vg88] ig88 ag88 qg88 rg88 (by rfl) ?_
              exact ft_ret mi_k215 (by rfl) (hP vg88 _ _ _ _ hGg88 ⟨trivial, ⟨fun _ => ⟨((q90).trans (avV_7_2 (or106 r7.2 w87) (or110 c51 kor2)).symm), tr_cs t91 (trC_7_2 (or106 r7.2 w87) (or110 c51 kor2))⟩, fun h => absurd (or111 c51 s2 z4.1 z4.2 z6.2 kor2 kor1 kor0 kor3) h⟩⟩)
            exact (or108 r7.1 r7.2 w52 w57 w62 w67 w72 w77 w82 w87).elim
        ·
          have c92 : x2.toInt = (1 : Int32).toInt := kd_neF c; clear c
          refine ft_go mi_k215 4 63 [(4, .int ((a 134).getD x1.toNatClampNeg 0)), (0, .ref 116), (1, .int x1), (2, .int x2), (3, .int x3)] [.int x3, .int ((a 134).getD x1.toNatClampNeg 0), .int x1, .ref 116] (ku i 7457 0) a q r (by rfl) ?_
          by_cases w93 : ((a 134).getD x1.toNatClampNeg 0).toInt = 0
          ·
            refine ko_eq (x1 := (63, [(4, .int ((a 134).getD x1.toNatClampNeg 0)), (0, .ref 116), (1, .int x1), (2, .int x2), (3, .int x3)], [.int x3, .int 0, .int x1, .ref 116], (0, 0), ks (ku i 7457 0) a q r)) (by rw [(kj_eq w93 (by decide) : ((a 134).getD x1.toNatClampNeg 0) = 0)]) ?_
            refine ko_callI mi_k215.1 (pc := 63) (ls := [(4, .int ((a 134).getD x1.toNatClampNeg 0)), (0, .ref 116), (1, .int x1), (2, .int x2), (3, .int x3)]) (st := [.int x3, .int 0, .int x1, .ref 116]) (h := ks (ku i 7457 0) a q r) (i := (.invokevirtual 360, 3, 211, 0, 9, 0, 466)) (mi_k215.2 _ _ (by rfl)) (ft_invS mi_pq211 (by rfl)) (cy := mi_c211) mi_pq211 rfl (ke211_116_l10_K0 hJ1.I hJ1.R x1 x3 (or32 fi_7455.2 s2 z4.1 z4.2 kor1 kor0) (or33 r7.1 w93) (or112 kor0)) (by decide) ?_
            intro vg94 ig94 ag94 qg94 rg94 kg94 hg94
            have hGg94 := kG_call hJ1 kg94 (by decide +kernel)
            obtain ⟨hg94, og94⟩ := hg94
            have fig94_7457 : ((0 : Int) ≤ (ig94 7457).toInt) ∧ ((ig94 7457).toInt ≤ 1000) := hGg94.I.1 7457
            have z95 : (ig94 7457).toInt = ((0 : Int32).toInt + 2) := hg94
            have q96 : vg94 = av0_1_0 x1 x3 := og94.1
            have t97 : trS (a 135) (0 : Int32) (ag94 135) (ig94 7457) [10, 1] := og94.2
            refine ft_go mi_k215 1 93 [(4, .int ((a 134).getD x1.toNatClampNeg 0)), (0, .ref 116), (1, .int x1), (2, .int x2), (3, .int x3)] [.int vg94] ig94 ag94 qg94 rg94 (by rfl) ?_
            exact ft_ret mi_k215 (by rfl) (hP vg94 _ _ _ _ hGg94 ⟨trivial, ⟨fun _ => ⟨((q96).trans (avV_0_1 (or33 r7.1 w93) (or113 c92 kor1)).symm), tr_cs t97 (trC_0_1 (or33 r7.1 w93) (or113 c92 kor1))⟩, fun h => absurd (or114 c92 s2 z4.1 z4.2 z6.2 kor1 kor0 kor3) h⟩⟩)
          by_cases w98 : ((a 134).getD x1.toNatClampNeg 0).toInt = 1
          ·
            refine ko_eq (x1 := (63, [(4, .int ((a 134).getD x1.toNatClampNeg 0)), (0, .ref 116), (1, .int x1), (2, .int x2), (3, .int x3)], [.int x3, .int 1, .int x1, .ref 116], (0, 0), ks (ku i 7457 0) a q r)) (by rw [(kj_eq w98 (by decide) : ((a 134).getD x1.toNatClampNeg 0) = 1)]) ?_
            refine ko_callI mi_k215.1 (pc := 63) (ls := [(4, .int ((a 134).getD x1.toNatClampNeg 0)), (0, .ref 116), (1, .int x1), (2, .int x2), (3, .int x3)]) (st := [.int x3, .int 1, .int x1, .ref 116]) (h := ks (ku i 7457 0) a q r) (i := (.invokevirtual 360, 3, 211, 0, 9, 0, 466)) (mi_k215.2 _ _ (by rfl)) (ft_invS mi_pq211 (by rfl)) (cy := mi_c211) mi_pq211 rfl (ke211_116_l11_K1 hJ1.I hJ1.R x1 x3 (or32 fi_7455.2 s2 z4.1 z4.2 kor1 kor0) (or43 w98) (or115 kor0)) (by decide) ?_
            intro vg99 ig99 ag99 qg99 rg99 kg99 hg99
            have hGg99 := kG_call hJ1 kg99 (by decide +kernel)
            obtain ⟨hg99, og99⟩ := hg99
            have fig99_7457 : ((0 : Int) ≤ (ig99 7457).toInt) ∧ ((ig99 7457).toInt ≤ 1000) := hGg99.I.1 7457
            have z100 : (ig99 7457).toInt = ((0 : Int32).toInt + 3) := hg99
            have q101 : vg99 = av0_1_1 x1 x3 := og99.1
            have t102 : trS (a 135) (0 : Int32) (ag99 135) (ig99 7457) [10, 20, 1] := og99.2
            refine ft_go mi_k215 1 93 [(4, .int ((a 134).getD x1.toNatClampNeg 0)), (0, .ref 116), (1, .int x1), (2, .int x2), (3, .int x3)] [.int vg99] ig99 ag99 qg99 rg99 (by rfl) ?_
            exact ft_ret mi_k215 (by rfl) (hP vg99 _ _ _ _ hGg99 ⟨trivial, ⟨fun _ => ⟨((q101).trans (avV_1_1 (or43 w98) (or113 c92 kor1)).symm), tr_cs t102 (trC_1_1 (or43 w98) (or113 c92 kor1))⟩, fun h => absurd (or114 c92 s2 z4.1 z4.2 z6.2 kor1 kor0 kor3) h⟩⟩)
          by_cases w103 : ((a 134).getD x1.toNatClampNeg 0).toInt = 2
          ·
            refine ko_eq (x1 := (63, [(4, .int ((a 134).getD x1.toNatClampNeg 0)), (0, .ref 116), (1, .int x1), (2, .int x2), (3, .int x3)], [.int x3, .int 2, .int x1, .ref 116], (0, 0), ks (ku i 7457 0) a q r)) (by rw [(kj_eq w103 (by decide) : ((a 134).getD x1.toNatClampNeg 0) = 2)]) ?_
            refine ko_callI mi_k215.1 (pc := 63) (ls := [(4, .int ((a 134).getD x1.toNatClampNeg 0)), (0, .ref 116), (1, .int x1), (2, .int x2), (3, .int x3)]) (st := [.int x3, .int 2, .int x1, .ref 116]) (h := ks (ku i 7457 0) a q r) (i := (.invokevirtual 360, 3, 211, 0, 9, 0, 466)) (mi_k215.2 _ _ (by rfl)) (ft_invS mi_pq211 (by rfl)) (cy := mi_c211) mi_pq211 rfl (ke211_116_l12_K2 hJ1.I hJ1.R x1 x3 (or32 fi_7455.2 s2 z4.1 z4.2 kor1 kor0) (or55 w103) (or115 kor0)) (by decide) ?_
            intro vg104 ig104 ag104 qg104 rg104 kg104 hg104
            have hGg104 := kG_call hJ1 kg104 (by decide +kernel)
            obtain ⟨hg104, og104⟩ := hg104
            have fig104_7457 : ((0 : Int) ≤ (ig104 7457).toInt) ∧ ((ig104 7457).toInt ≤ 1000) := hGg104.I.1 7457
            have z105 : (ig104 7457).toInt = ((0 : Int32).toInt + 3) := hg104
            have q106 : vg104 = av2_1_2 x1 x3 := og104.1
            have t107 : trS (a 135) (0 : Int32) (ag104 135) (ig104 7457) [30, 10, 1] := og104.2
            refine ft_go mi_k215 1 93 [(4, .int ((a 134).getD x1.toNatClampNeg 0)), (0, .ref 116), (1, .int x1), (2, .int x2), (3, .int x3)] [.int vg104] ig104 ag104 qg104 rg104 (by rfl) ?_
            exact ft_ret mi_k215 (by rfl) (hP vg104 _ _ _ _ hGg104 ⟨trivial, ⟨fun _ => ⟨((q106).trans (avV_2_1 (or55 w103) (or113 c92 kor1)).symm), tr_cs t107 (trC_2_1 (or55 w103) (or113 c92 kor1))⟩, fun h => absurd (or114 c92 s2 z4.1 z4.2 z6.2 kor1 kor0 kor3) h⟩⟩)
          by_cases w108 : ((a 134).getD x1.toNatClampNeg 0).toInt = 3
          ·
            refine ko_eq (x1 := (63, [(4, .int ((a 134).getD x1.toNatClampNeg 0)), (0, .ref 116), (1, .int x1), (2, .int x2), (3, .int x3)], [.int x3, .int 3, .int x1, .ref 116], (0, 0), ks (ku i 7457 0) a q r)) (by rw [(kj_eq w108 (by decide) : ((a 134).getD x1.toNatClampNeg 0) = 3)]) ?_
            refine ko_callI mi_k215.1 (pc := 63) (ls := [(4, .int ((a 134).getD x1.toNatClampNeg 0)), (0, .ref 116), (1, .int x1), (2, .int x2), (3, .int x3)]) (st := [.int x3, .int 3, .int x1, .ref 116]) (h := ks (ku i 7457 0) a q r) (i := (.invokevirtual 360, 3, 211, 0, 9, 0, 466)) (mi_k215.2 _ _ (by rfl)) (ft_invS mi_pq211 (by rfl)) (cy := mi_c211) mi_pq211 rfl (ke211_116_l13_K3 hJ1.I hJ1.R x1 x3 (or32 fi_7455.2 s2 z4.1 z4.2 kor1 kor0) (or59 w108) (or34 kor0)) (by decide) ?_
            intro vg109 ig109 ag109 qg109 rg109 kg109 hg109
            have hGg109 := kG_call hJ1 kg109 (by decide +kernel)
            obtain ⟨hg109, og109⟩ := hg109
            have fig109_7457 : ((0 : Int) ≤ (ig109 7457).toInt) ∧ ((ig109 7457).toInt ≤ 1000) := hGg109.I.1 7457
            have z110 : (ig109 7457).toInt = ((0 : Int32).toInt + 4) := hg109
            have q111 : vg109 = av3_1_3 x1 x3 := og109.1
            have t112 : trS (a 135) (0 : Int32) (ag109 135) (ig109 7457) [41, 30, 10, 1] := og109.2
            refine ft_go mi_k215 1 93 [(4, .int ((a 134).getD x1.toNatClampNeg 0)), (0, .ref 116), (1, .int x1), (2, .int x2), (3, .int x3)] [.int vg109] ig109 ag109 qg109 rg109 (by rfl) ?_
            exact ft_ret mi_k215 (by rfl) (hP vg109 _ _ _ _ hGg109 ⟨trivial, ⟨fun _ => ⟨((q111).trans (avV_3_1 (or59 w108) (or113 c92 kor1)).symm), tr_cs t112 (trC_3_1 (or59 w108) (or113 c92 kor1))⟩, fun h => absurd (or114 c92 s2 z4.1 z4.2 z6.2 kor1 kor0 kor3) h⟩⟩)
          by_cases w113 : ((a 134).getD x1.toNatClampNeg 0).toInt = 4
          ·
            refine ko_eq (x1 := (63, [(4, .int ((a 134).getD x1.toNatClampNeg 0)), (0, .ref 116), (1, .int x1), (2, .int x2), (3, .int x3)], [.int x3, .int 4, .int x1, .ref 116], (0, 0), ks (ku i 7457 0) a q r)) (by rw [(kj_eq w113 (by decide) : ((a 134).getD x1.toNatClampNeg 0) = 4)]) ?_
            refine ko_callI mi_k215.1 (pc := 63) (ls := [(4, .int ((a 134).getD x1.toNatClampNeg 0)), (0, .ref 116), (1, .int x1), (2, .int x2), (3, .int x3)]) (st := [.int x3, .int 4, .int x1, .ref 116]) (h := ks (ku i 7457 0) a q r) (i := (.invokevirtual 360, 3, 211, 0, 9, 0, 466)) (mi_k215.2 _ _ (by rfl)) (ft_invS mi_pq211 (by rfl)) (cy := mi_c211) mi_pq211 rfl (ke211_116_l14_K4 hJ1.I hJ1.R x1 x3 (or32 fi_7455.2 s2 z4.1 z4.2 kor1 kor0) (or71 w113) (or115 kor0)) (by decide) ?_
            intro vg114 ig114 ag114 qg114 rg114 kg114 hg114
            have hGg114 := kG_call hJ1 kg114 (by decide +kernel)
            obtain ⟨hg114, og114⟩ := hg114
            have fig114_7457 : ((0 : Int) ≤ (ig114 7457).toInt) ∧ ((ig114 7457).toInt ≤ 1000) := hGg114.I.1 7457
            have z115 : (ig114 7457).toInt = ((0 : Int32).toInt + 3) := hg114
            have q116 : vg114 = av0_1_4 x1 x3 := og114.1
            have t117 : trS (a 135) (0 : Int32) (ag114 135) (ig114 7457) [10, 20, 1] := og114.2
            refine ft_go mi_k215 1 93 [(4, .int ((a 134).getD x1.toNatClampNeg 0)), (0, .ref 116), (1, .int x1), (2, .int x2), (3, .int x3)] [.int vg114] ig114 ag114 qg114 rg114 (by rfl) ?_
            exact ft_ret mi_k215 (by rfl) (hP vg114 _ _ _ _ hGg114 ⟨trivial, ⟨fun _ => ⟨((q116).trans (avV_4_1 (or71 w113) (or113 c92 kor1)).symm), tr_cs t117 (trC_4_1 (or71 w113) (or113 c92 kor1))⟩, fun h => absurd (or114 c92 s2 z4.1 z4.2 z6.2 kor1 kor0 kor3) h⟩⟩)
          by_cases w118 : ((a 134).getD x1.toNatClampNeg 0).toInt = 5
          ·
            refine ko_eq (x1 := (63, [(4, .int ((a 134).getD x1.toNatClampNeg 0)), (0, .ref 116), (1, .int x1), (2, .int x2), (3, .int x3)], [.int x3, .int 5, .int x1, .ref 116], (0, 0), ks (ku i 7457 0) a q r)) (by rw [(kj_eq w118 (by decide) : ((a 134).getD x1.toNatClampNeg 0) = 5)]) ?_
            refine ko_callI mi_k215.1 (pc := 63) (ls := [(4, .int ((a 134).getD x1.toNatClampNeg 0)), (0, .ref 116), (1, .int x1), (2, .int x2), (3, .int x3)]) (st := [.int x3, .int 5, .int x1, .ref 116]) (h := ks (ku i 7457 0) a q r) (i := (.invokevirtual 360, 3, 211, 0, 9, 0, 466)) (mi_k215.2 _ _ (by rfl)) (ft_invS mi_pq211 (by rfl)) (cy := mi_c211) mi_pq211 rfl (ke211_116_l15_K5 hJ1.I hJ1.R x1 x3 (or32 fi_7455.2 s2 z4.1 z4.2 kor1 kor0) (or85 w118) (or34 kor0)) (by decide) ?_
            intro vg119 ig119 ag119 qg119 rg119 kg119 hg119
            have hGg119 := kG_call hJ1 kg119 (by decide +kernel)
            obtain ⟨hg119, og119⟩ := hg119
            have fig119_7457 : ((0 : Int) ≤ (ig119 7457).toInt) ∧ ((ig119 7457).toInt ≤ 1000) := hGg119.I.1 7457
            have z120 : (ig119 7457).toInt = ((0 : Int32).toInt + 4) := hg119
            have q121 : vg119 = av3_1_5 x1 x3 := og119.1
            have t122 : trS (a 135) (0 : Int32) (ag119 135) (ig119 7457) [41, 30, 10, 1] := og119.2
            refine ft_go mi_k215 1 93 [(4, .int ((a 134).getD x1.toNatClampNeg 0)), (0, .ref 116), (1, .int x1), (2, .int x2), (3, .int x3)] [.int vg119] ig119 ag119 qg119 rg119 (by rfl) ?_
            exact ft_ret mi_k215 (by rfl) (hP vg119 _ _ _ _ hGg119 ⟨trivial, ⟨fun _ => ⟨((q121).trans (avV_5_1 (or85 w118) (or113 c92 kor1)).symm), tr_cs t122 (trC_5_1 (or85 w118) (or113 c92 kor1))⟩, fun h => absurd (or114 c92 s2 z4.1 z4.2 z6.2 kor1 kor0 kor3) h⟩⟩)
          by_cases w123 : ((a 134).getD x1.toNatClampNeg 0).toInt = 6
          ·
            refine ko_eq (x1 := (63, [(4, .int ((a 134).getD x1.toNatClampNeg 0)), (0, .ref 116), (1, .int x1), (2, .int x2), (3, .int x3)], [.int x3, .int 6, .int x1, .ref 116], (0, 0), ks (ku i 7457 0) a q r)) (by rw [(kj_eq w123 (by decide) : ((a 134).getD x1.toNatClampNeg 0) = 6)]) ?_
            refine ko_callI mi_k215.1 (pc := 63) (ls := [(4, .int ((a 134).getD x1.toNatClampNeg 0)), (0, .ref 116), (1, .int x1), (2, .int x2), (3, .int x3)]) (st := [.int x3, .int 6, .int x1, .ref 116]) (h := ks (ku i 7457 0) a q r) (i := (.invokevirtual 360, 3, 211, 0, 9, 0, 466)) (mi_k215.2 _ _ (by rfl)) (ft_invS mi_pq211 (by rfl)) (cy := mi_c211) mi_pq211 rfl (ke211_116_l16_K6 hJ1.I hJ1.R x1 x3 (or32 fi_7455.2 s2 z4.1 z4.2 kor1 kor0) (or92 w123) (or115 kor0)) (by decide) ?_
            intro vg124 ig124 ag124 qg124 rg124 kg124 hg124
            have hGg124 := kG_call hJ1 kg124 (by decide +kernel)
            obtain ⟨hg124, og124⟩ := hg124
            have fig124_7457 : ((0 : Int) ≤ (ig124 7457).toInt) ∧ ((ig124 7457).toInt ≤ 1000) := hGg124.I.1 7457
            have z125 : (ig124 7457).toInt = ((0 : Int32).toInt + 3) := hg124
            have q126 : vg124 = av0_1_6 x1 x3 := og124.1
            have t127 : trS (a 135) (0 : Int32) (ag124 135) (ig124 7457) [10, 70, 1] := og124.2
            refine ft_go mi_k215 1 93 [(4, .int ((a 134).getD x1.toNatClampNeg 0)), (0, .ref 116), (1, .int x1), (2, .int x2), (3, .int x3)] [.int vg124] ig124 ag124 qg124 rg124 (by rfl) ?_
            exact ft_ret mi_k215 (by rfl) (hP vg124 _ _ _ _ hGg124 ⟨trivial, ⟨fun _ => ⟨((q126).trans (avV_6_1 (or92 w123) (or113 c92 kor1)).symm), tr_cs t127 (trC_6_1 (or92 w123) (or113 c92 kor1))⟩, fun h => absurd (or114 c92 s2 z4.1 z4.2 z6.2 kor1 kor0 kor3) h⟩⟩)
          by_cases w128 : ((a 134).getD x1.toNatClampNeg 0).toInt = 7
          ·
            refine ko_eq (x1 := (63, [(4, .int ((a 134).getD x1.toNatClampNeg 0)), (0, .ref 116), (1, .int x1), (2, .int x2), (3, .int x3)], [.int x3, .int 7, .int x1, .ref 116], (0, 0), ks (ku i 7457 0) a q r)) (by rw [(kj_eq w128 (by decide) : ((a 134).getD x1.toNatClampNeg 0) = 7)]) ?_
            refine ko_callI mi_k215.1 (pc := 63) (ls := [(4, .int ((a 134).getD x1.toNatClampNeg 0)), (0, .ref 116), (1, .int x1), (2, .int x2), (3, .int x3)]) (st := [.int x3, .int 7, .int x1, .ref 116]) (h := ks (ku i 7457 0) a q r) (i := (.invokevirtual 360, 3, 211, 0, 9, 0, 466)) (mi_k215.2 _ _ (by rfl)) (ft_invS mi_pq211 (by rfl)) (cy := mi_c211) mi_pq211 rfl (ke211_116_l17_K7 hJ1.I hJ1.R x1 x3 (or32 fi_7455.2 s2 z4.1 z4.2 kor1 kor0) (or106 r7.2 w128) (or83 kor0)) (by decide) ?_
            intro vg129 ig129 ag129 qg129 rg129 kg129 hg129
            have hGg129 := kG_call hJ1 kg129 (by decide +kernel)
            obtain ⟨hg129, og129⟩ := hg129
            have fig129_7457 : ((0 : Int) ≤ (ig129 7457).toInt) ∧ ((ig129 7457).toInt ≤ 1000) := hGg129.I.1 7457
            have z130 : (ig129 7457).toInt = ((0 : Int32).toInt + 8) := hg129
            have q131 : vg129 = av7_1_7 x1 x3 := og129.1
            have t132 : trS (a 135) (0 : Int32) (ag129 135) (ig129 7457) [80, 10, 20, 1, 50, 11, 20, 1] := og129.2
            refine ft_go mi_k215 1 93 [(4, .int ((a 134).getD x1.toNatClampNeg 0)), (0, .ref 116), (1, .int x1), (2, .int x2), (3, .int x3)] [.int vg129] ig129 ag129 qg129 rg129 (by rfl) ?_
            exact ft_ret mi_k215 (by rfl) (hP vg129 _ _ _ _ hGg129 ⟨trivial, ⟨fun _ => ⟨((q131).trans (avV_7_1 (or106 r7.2 w128) (or113 c92 kor1)).symm), tr_cs t132 (trC_7_1 (or106 r7.2 w128) (or113 c92 kor1))⟩, fun h => absurd (or114 c92 s2 z4.1 z4.2 z6.2 kor1 kor0 kor3) h⟩⟩)
          exact (or116 r7.1 r7.2 w103 w108 w113 w118 w123 w128 w93 w98).elim
      ·
        have c133 : x2.toInt = (0 : Int32).toInt := kd_neF c; clear c
        refine ft_go mi_k215 4 47 [(4, .int ((a 134).getD x1.toNatClampNeg 0)), (0, .ref 116), (1, .int x1), (2, .int x2), (3, .int x3)] [.int x3, .int ((a 134).getD x1.toNatClampNeg 0), .int x1, .ref 116] (ku i 7457 0) a q r (by rfl) ?_
        by_cases w134 : ((a 134).getD x1.toNatClampNeg 0).toInt = 0
        ·
          refine ko_eq (x1 := (47, [(4, .int ((a 134).getD x1.toNatClampNeg 0)), (0, .ref 116), (1, .int x1), (2, .int x2), (3, .int x3)], [.int x3, .int 0, .int x1, .ref 116], (0, 0), ks (ku i 7457 0) a q r)) (by rw [(kj_eq w134 (by decide) : ((a 134).getD x1.toNatClampNeg 0) = 0)]) ?_
          refine ko_callI mi_k215.1 (pc := 47) (ls := [(4, .int ((a 134).getD x1.toNatClampNeg 0)), (0, .ref 116), (1, .int x1), (2, .int x2), (3, .int x3)]) (st := [.int x3, .int 0, .int x1, .ref 116]) (h := ks (ku i 7457 0) a q r) (i := (.invokevirtual 354, 3, 210, 0, 9, 0, 463)) (mi_k215.2 _ _ (by rfl)) (ft_invS mi_pq210 (by rfl)) (cy := mi_c210) mi_pq210 rfl (ke210_116_l10_K0 hJ1.I hJ1.R x1 x3 (or32 fi_7455.2 s2 z4.1 z4.2 kor1 kor0) (or33 r7.1 w134) (or109 kor0)) (by decide) ?_
          intro vg135 ig135 ag135 qg135 rg135 kg135 hg135
          have hGg135 := kG_call hJ1 kg135 (by decide +kernel)
          obtain ⟨hg135, og135⟩ := hg135
          have fig135_7457 : ((0 : Int) ≤ (ig135 7457).toInt) ∧ ((ig135 7457).toInt ≤ 1000) := hGg135.I.1 7457
          have z136 : (ig135 7457).toInt = ((0 : Int32).toInt + 1) := hg135
          have q137 : vg135 = av0_0_0 x1 x3 := og135.1
          have t138 : trS (a 135) (0 : Int32) (ag135 135) (ig135 7457) [1] := og135.2
          refine ft_go mi_k215 1 93 [(4, .int ((a 134).getD x1.toNatClampNeg 0)), (0, .ref 116), (1, .int x1), (2, .int x2), (3, .int x3)] [.int vg135] ig135 ag135 qg135 rg135 (by rfl) ?_
          exact ft_ret mi_k215 (by rfl) (hP vg135 _ _ _ _ hGg135 ⟨trivial, ⟨fun _ => ⟨((q137).trans (avV_0_0 (or33 r7.1 w134) (or117 c133 z6.1 kor0)).symm), tr_cs t138 (trC_0_0 (or33 r7.1 w134) (or117 c133 z6.1 kor0))⟩, fun h => absurd (or36 s2 z4.1 z4.2 z6.1 z6.2 kor1 kor0 kor3) h⟩⟩)
        by_cases w139 : ((a 134).getD x1.toNatClampNeg 0).toInt = 1
        ·
          refine ko_eq (x1 := (47, [(4, .int ((a 134).getD x1.toNatClampNeg 0)), (0, .ref 116), (1, .int x1), (2, .int x2), (3, .int x3)], [.int x3, .int 1, .int x1, .ref 116], (0, 0), ks (ku i 7457 0) a q r)) (by rw [(kj_eq w139 (by decide) : ((a 134).getD x1.toNatClampNeg 0) = 1)]) ?_
          refine ko_callI mi_k215.1 (pc := 47) (ls := [(4, .int ((a 134).getD x1.toNatClampNeg 0)), (0, .ref 116), (1, .int x1), (2, .int x2), (3, .int x3)]) (st := [.int x3, .int 1, .int x1, .ref 116]) (h := ks (ku i 7457 0) a q r) (i := (.invokevirtual 354, 3, 210, 0, 9, 0, 463)) (mi_k215.2 _ _ (by rfl)) (ft_invS mi_pq210 (by rfl)) (cy := mi_c210) mi_pq210 rfl (ke210_116_l11_K1 hJ1.I hJ1.R x1 x3 (or32 fi_7455.2 s2 z4.1 z4.2 kor1 kor0) (or43 w139) (or112 kor0)) (by decide) ?_
          intro vg140 ig140 ag140 qg140 rg140 kg140 hg140
          have hGg140 := kG_call hJ1 kg140 (by decide +kernel)
          obtain ⟨hg140, og140⟩ := hg140
          have fig140_7457 : ((0 : Int) ≤ (ig140 7457).toInt) ∧ ((ig140 7457).toInt ≤ 1000) := hGg140.I.1 7457
          have z141 : (ig140 7457).toInt = ((0 : Int32).toInt + 2) := hg140
          have q142 : vg140 = av1_0_1 x1 x3 := og140.1
          have t143 : trS (a 135) (0 : Int32) (ag140 135) (ig140 7457) [20, 1] := og140.2
          refine ft_go mi_k215 1 93 [(4, .int ((a 134).getD x1.toNatClampNeg 0)), (0, .ref 116), (1, .int x1), (2, .int x2), (3, .int x3)] [.int vg140] ig140 ag140 qg140 rg140 (by rfl) ?_
          exact ft_ret mi_k215 (by rfl) (hP vg140 _ _ _ _ hGg140 ⟨trivial, ⟨fun _ => ⟨((q142).trans (avV_1_0 (or43 w139) (or117 c133 z6.1 kor0)).symm), tr_cs t143 (trC_1_0 (or43 w139) (or117 c133 z6.1 kor0))⟩, fun h => absurd (or36 s2 z4.1 z4.2 z6.1 z6.2 kor1 kor0 kor3) h⟩⟩)
        by_cases w144 : ((a 134).getD x1.toNatClampNeg 0).toInt = 2
        ·
          refine ko_eq (x1 := (47, [(4, .int ((a 134).getD x1.toNatClampNeg 0)), (0, .ref 116), (1, .int x1), (2, .int x2), (3, .int x3)], [.int x3, .int 2, .int x1, .ref 116], (0, 0), ks (ku i 7457 0) a q r)) (by rw [(kj_eq w144 (by decide) : ((a 134).getD x1.toNatClampNeg 0) = 2)]) ?_
          refine ko_callI mi_k215.1 (pc := 47) (ls := [(4, .int ((a 134).getD x1.toNatClampNeg 0)), (0, .ref 116), (1, .int x1), (2, .int x2), (3, .int x3)]) (st := [.int x3, .int 2, .int x1, .ref 116]) (h := ks (ku i 7457 0) a q r) (i := (.invokevirtual 354, 3, 210, 0, 9, 0, 463)) (mi_k215.2 _ _ (by rfl)) (ft_invS mi_pq210 (by rfl)) (cy := mi_c210) mi_pq210 rfl (ke210_116_l12_K2 hJ1.I hJ1.R x1 x3 (or32 fi_7455.2 s2 z4.1 z4.2 kor1 kor0) (or55 w144) (or109 kor0)) (by decide) ?_
          intro vg145 ig145 ag145 qg145 rg145 kg145 hg145
          have hGg145 := kG_call hJ1 kg145 (by decide +kernel)
          obtain ⟨hg145, og145⟩ := hg145
          have fig145_7457 : ((0 : Int) ≤ (ig145 7457).toInt) ∧ ((ig145 7457).toInt ≤ 1000) := hGg145.I.1 7457
          have z146 : (ig145 7457).toInt = ((0 : Int32).toInt + 1) := hg145
          have q147 : vg145 = av0_0_2 x1 x3 := og145.1
          have t148 : trS (a 135) (0 : Int32) (ag145 135) (ig145 7457) [1] := og145.2
          refine ft_go mi_k215 1 93 [(4, .int ((a 134).getD x1.toNatClampNeg 0)), (0, .ref 116), (1, .int x1), (2, .int x2), (3, .int x3)] [.int vg145] ig145 ag145 qg145 rg145 (by rfl) ?_
          exact ft_ret mi_k215 (by rfl) (hP vg145 _ _ _ _ hGg145 ⟨trivial, ⟨fun _ => ⟨((q147).trans (avV_2_0 (or55 w144) (or117 c133 z6.1 kor0)).symm), tr_cs t148 (trC_2_0 (or55 w144) (or117 c133 z6.1 kor0))⟩, fun h => absurd (or36 s2 z4.1 z4.2 z6.1 z6.2 kor1 kor0 kor3) h⟩⟩)
        by_cases w149 : ((a 134).getD x1.toNatClampNeg 0).toInt = 3
        ·
          refine ko_eq (x1 := (47, [(4, .int ((a 134).getD x1.toNatClampNeg 0)), (0, .ref 116), (1, .int x1), (2, .int x2), (3, .int x3)], [.int x3, .int 3, .int x1, .ref 116], (0, 0), ks (ku i 7457 0) a q r)) (by rw [(kj_eq w149 (by decide) : ((a 134).getD x1.toNatClampNeg 0) = 3)]) ?_
          refine ko_callI mi_k215.1 (pc := 47) (ls := [(4, .int ((a 134).getD x1.toNatClampNeg 0)), (0, .ref 116), (1, .int x1), (2, .int x2), (3, .int x3)]) (st := [.int x3, .int 3, .int x1, .ref 116]) (h := ks (ku i 7457 0) a q r) (i := (.invokevirtual 354, 3, 210, 0, 9, 0, 463)) (mi_k215.2 _ _ (by rfl)) (ft_invS mi_pq210 (by rfl)) (cy := mi_c210) mi_pq210 rfl (ke210_116_l13_K3 hJ1.I hJ1.R x1 x3 (or32 fi_7455.2 s2 z4.1 z4.2 kor1 kor0) (or59 w149) (or109 kor0)) (by decide) ?_
          intro vg150 ig150 ag150 qg150 rg150 kg150 hg150
          have hGg150 := kG_call hJ1 kg150 (by decide +kernel)
          obtain ⟨hg150, og150⟩ := hg150
          have fig150_7457 : ((0 : Int) ≤ (ig150 7457).toInt) ∧ ((ig150 7457).toInt ≤ 1000) := hGg150.I.1 7457
          have z151 : (ig150 7457).toInt = ((0 : Int32).toInt + 1) := hg150
          have q152 : vg150 = av0_0_3 x1 x3 := og150.1
          have t153 : trS (a 135) (0 : Int32) (ag150 135) (ig150 7457) [1] := og150.2
          refine ft_go mi_k215 1 93 [(4, .int ((a 134).getD x1.toNatClampNeg 0)), (0, .ref 116), (1, .int x1), (2, .int x2), (3, .int x3)] [.int vg150] ig150 ag150 qg150 rg150 (by rfl) ?_
          exact ft_ret mi_k215 (by rfl) (hP vg150 _ _ _ _ hGg150 ⟨trivial, ⟨fun _ => ⟨((q152).trans (avV_3_0 (or59 w149) (or117 c133 z6.1 kor0)).symm), tr_cs t153 (trC_3_0 (or59 w149) (or117 c133 z6.1 kor0))⟩, fun h => absurd (or36 s2 z4.1 z4.2 z6.1 z6.2 kor1 kor0 kor3) h⟩⟩)
        by_cases w154 : ((a 134).getD x1.toNatClampNeg 0).toInt = 4
        ·
          refine ko_eq (x1 := (47, [(4, .int ((a 134).getD x1.toNatClampNeg 0)), (0, .ref 116), (1, .int x1), (2, .int x2), (3, .int x3)], [.int x3, .int 4, .int x1, .ref 116], (0, 0), ks (ku i 7457 0) a q r)) (by rw [(kj_eq w154 (by decide) : ((a 134).getD x1.toNatClampNeg 0) = 4)]) ?_
          refine ko_callI mi_k215.1 (pc := 47) (ls := [(4, .int ((a 134).getD x1.toNatClampNeg 0)), (0, .ref 116), (1, .int x1), (2, .int x2), (3, .int x3)]) (st := [.int x3, .int 4, .int x1, .ref 116]) (h := ks (ku i 7457 0) a q r) (i := (.invokevirtual 354, 3, 210, 0, 9, 0, 463)) (mi_k215.2 _ _ (by rfl)) (ft_invS mi_pq210 (by rfl)) (cy := mi_c210) mi_pq210 rfl (ke210_116_l14_K4 hJ1.I hJ1.R x1 x3 (or32 fi_7455.2 s2 z4.1 z4.2 kor1 kor0) (or71 w154) (or112 kor0)) (by decide) ?_
          intro vg155 ig155 ag155 qg155 rg155 kg155 hg155
          have hGg155 := kG_call hJ1 kg155 (by decide +kernel)
          obtain ⟨hg155, og155⟩ := hg155
          have fig155_7457 : ((0 : Int) ≤ (ig155 7457).toInt) ∧ ((ig155 7457).toInt ≤ 1000) := hGg155.I.1 7457
          have z156 : (ig155 7457).toInt = ((0 : Int32).toInt + 2) := hg155
          have q157 : vg155 = av1_0_4 x1 x3 := og155.1
          have t158 : trS (a 135) (0 : Int32) (ag155 135) (ig155 7457) [20, 1] := og155.2
          refine ft_go mi_k215 1 93 [(4, .int ((a 134).getD x1.toNatClampNeg 0)), (0, .ref 116), (1, .int x1), (2, .int x2), (3, .int x3)] [.int vg155] ig155 ag155 qg155 rg155 (by rfl) ?_
          exact ft_ret mi_k215 (by rfl) (hP vg155 _ _ _ _ hGg155 ⟨trivial, ⟨fun _ => ⟨((q157).trans (avV_4_0 (or71 w154) (or117 c133 z6.1 kor0)).symm), tr_cs t158 (trC_4_0 (or71 w154) (or117 c133 z6.1 kor0))⟩, fun h => absurd (or36 s2 z4.1 z4.2 z6.1 z6.2 kor1 kor0 kor3) h⟩⟩)
        by_cases w159 : ((a 134).getD x1.toNatClampNeg 0).toInt = 5
        ·
          refine ko_eq (x1 := (47, [(4, .int ((a 134).getD x1.toNatClampNeg 0)), (0, .ref 116), (1, .int x1), (2, .int x2), (3, .int x3)], [.int x3, .int 5, .int x1, .ref 116], (0, 0), ks (ku i 7457 0) a q r)) (by rw [(kj_eq w159 (by decide) : ((a 134).getD x1.toNatClampNeg 0) = 5)]) ?_
          refine ko_callI mi_k215.1 (pc := 47) (ls := [(4, .int ((a 134).getD x1.toNatClampNeg 0)), (0, .ref 116), (1, .int x1), (2, .int x2), (3, .int x3)]) (st := [.int x3, .int 5, .int x1, .ref 116]) (h := ks (ku i 7457 0) a q r) (i := (.invokevirtual 354, 3, 210, 0, 9, 0, 463)) (mi_k215.2 _ _ (by rfl)) (ft_invS mi_pq210 (by rfl)) (cy := mi_c210) mi_pq210 rfl (ke210_116_l15_K5 hJ1.I hJ1.R x1 x3 (or32 fi_7455.2 s2 z4.1 z4.2 kor1 kor0) (or85 w159) (or109 kor0)) (by decide) ?_
          intro vg160 ig160 ag160 qg160 rg160 kg160 hg160
          have hGg160 := kG_call hJ1 kg160 (by decide +kernel)
          obtain ⟨hg160, og160⟩ := hg160
          have fig160_7457 : ((0 : Int) ≤ (ig160 7457).toInt) ∧ ((ig160 7457).toInt ≤ 1000) := hGg160.I.1 7457
          have z161 : (ig160 7457).toInt = ((0 : Int32).toInt + 1) := hg160
          have q162 : vg160 = av0_0_5 x1 x3 := og160.1
          have t163 : trS (a 135) (0 : Int32) (ag160 135) (ig160 7457) [1] := og160.2
          refine ft_go mi_k215 1 93 [(4, .int ((a 134).getD x1.toNatClampNeg 0)), (0, .ref 116), (1, .int x1), (2, .int x2), (3, .int x3)] [.int vg160] ig160 ag160 qg160 rg160 (by rfl) ?_
          exact ft_ret mi_k215 (by rfl) (hP vg160 _ _ _ _ hGg160 ⟨trivial, ⟨fun _ => ⟨((q162).trans (avV_5_0 (or85 w159) (or117 c133 z6.1 kor0)).symm), tr_cs t163 (trC_5_0 (or85 w159) (or117 c133 z6.1 kor0))⟩, fun h => absurd (or36 s2 z4.1 z4.2 z6.1 z6.2 kor1 kor0 kor3) h⟩⟩)
        by_cases w164 : ((a 134).getD x1.toNatClampNeg 0).toInt = 6
        ·
          refine ko_eq (x1 := (47, [(4, .int ((a 134).getD x1.toNatClampNeg 0)), (0, .ref 116), (1, .int x1), (2, .int x2), (3, .int x3)], [.int x3, .int 6, .int x1, .ref 116], (0, 0), ks (ku i 7457 0) a q r)) (by rw [(kj_eq w164 (by decide) : ((a 134).getD x1.toNatClampNeg 0) = 6)]) ?_
          refine ko_callI mi_k215.1 (pc := 47) (ls := [(4, .int ((a 134).getD x1.toNatClampNeg 0)), (0, .ref 116), (1, .int x1), (2, .int x2), (3, .int x3)]) (st := [.int x3, .int 6, .int x1, .ref 116]) (h := ks (ku i 7457 0) a q r) (i := (.invokevirtual 354, 3, 210, 0, 9, 0, 463)) (mi_k215.2 _ _ (by rfl)) (ft_invS mi_pq210 (by rfl)) (cy := mi_c210) mi_pq210 rfl (ke210_116_l16_K6 hJ1.I hJ1.R x1 x3 (or32 fi_7455.2 s2 z4.1 z4.2 kor1 kor0) (or92 w164) (or112 kor0)) (by decide) ?_
          intro vg165 ig165 ag165 qg165 rg165 kg165 hg165
          have hGg165 := kG_call hJ1 kg165 (by decide +kernel)
          obtain ⟨hg165, og165⟩ := hg165
          have fig165_7457 : ((0 : Int) ≤ (ig165 7457).toInt) ∧ ((ig165 7457).toInt ≤ 1000) := hGg165.I.1 7457
          have z166 : (ig165 7457).toInt = ((0 : Int32).toInt + 2) := hg165
          have q167 : vg165 = av6_0_6 x1 x3 := og165.1
          have t168 : trS (a 135) (0 : Int32) (ag165 135) (ig165 7457) [70, 1] := og165.2
          refine ft_go mi_k215 1 93 [(4, .int ((a 134).getD x1.toNatClampNeg 0)), (0, .ref 116), (1, .int x1), (2, .int x2), (3, .int x3)] [.int vg165] ig165 ag165 qg165 rg165 (by rfl) ?_
          exact ft_ret mi_k215 (by rfl) (hP vg165 _ _ _ _ hGg165 ⟨trivial, ⟨fun _ => ⟨((q167).trans (avV_6_0 (or92 w164) (or117 c133 z6.1 kor0)).symm), tr_cs t168 (trC_6_0 (or92 w164) (or117 c133 z6.1 kor0))⟩, fun h => absurd (or36 s2 z4.1 z4.2 z6.1 z6.2 kor1 kor0 kor3) h⟩⟩)
        by_cases w169 : ((a 134).getD x1.toNatClampNeg 0).toInt = 7
        ·
          refine ko_eq (x1 := (47, [(4, .int ((a 134).getD x1.toNatClampNeg 0)), (0, .ref 116), (1, .int x1), (2, .int x2), (3, .int x3)], [.int x3, .int 7, .int x1, .ref 116], (0, 0), ks (ku i 7457 0) a q r)) (by rw [(kj_eq w169 (by decide) : ((a 134).getD x1.toNatClampNeg 0) = 7)]) ?_
          refine ko_callI mi_k215.1 (pc := 47) (ls := [(4, .int ((a 134).getD x1.toNatClampNeg 0)), (0, .ref 116), (1, .int x1), (2, .int x2), (3, .int x3)]) (st := [.int x3, .int 7, .int x1, .ref 116]) (h := ks (ku i 7457 0) a q r) (i := (.invokevirtual 354, 3, 210, 0, 9, 0, 463)) (mi_k215.2 _ _ (by rfl)) (ft_invS mi_pq210 (by rfl)) (cy := mi_c210) mi_pq210 rfl (ke210_116_l17_K7 hJ1.I hJ1.R x1 x3 (or32 fi_7455.2 s2 z4.1 z4.2 kor1 kor0) (or106 r7.2 w169) (or112 kor0)) (by decide) ?_
          intro vg170 ig170 ag170 qg170 rg170 kg170 hg170
          have hGg170 := kG_call hJ1 kg170 (by decide +kernel)
          obtain ⟨hg170, og170⟩ := hg170
          have fig170_7457 : ((0 : Int) ≤ (ig170 7457).toInt) ∧ ((ig170 7457).toInt ≤ 1000) := hGg170.I.1 7457
          have z171 : (ig170 7457).toInt = ((0 : Int32).toInt + 2) := hg170
          have q172 : vg170 = av1_0_7 x1 x3 := og170.1
          have t173 : trS (a 135) (0 : Int32) (ag170 135) (ig170 7457) [20, 1] := og170.2
          refine ft_go mi_k215 1 93 [(4, .int ((a 134).getD x1.toNatClampNeg 0)), (0, .ref 116), (1, .int x1), (2, .int x2), (3, .int x3)] [.int vg170] ig170 ag170 qg170 rg170 (by rfl) ?_
          exact ft_ret mi_k215 (by rfl) (hP vg170 _ _ _ _ hGg170 ⟨trivial, ⟨fun _ => ⟨((q172).trans (avV_7_0 (or106 r7.2 w169) (or117 c133 z6.1 kor0)).symm), tr_cs t173 (trC_7_0 (or106 r7.2 w169) (or117 c133 z6.1 kor0))⟩, fun h => absurd (or36 s2 z4.1 z4.2 z6.1 z6.2 kor1 kor0 kor3) h⟩⟩)
        exact (or108 r7.1 r7.2 w134 w139 w144 w149 w154 w159 w164 w169).elim
    ·
      subst eg5
      have z174 : ¬ (((0 : Int32).toInt ≤ x2.toInt) ∧ (x2.toInt ≤ (3 : Int32).toInt)) := hg5
      refine ft_go mi_k215 2 29 [(0, .ref 116), (1, .int x1), (2, .int x2), (3, .int x3)] [.int 0] (ku i 7457 0) a q r (by rfl) ?_
      exact ft_ret mi_k215 (by rfl) (hP 0 _ _ _ _ hJ1 ⟨trivial, ⟨fun h => absurd h (or118 z174 kor0 kor3), fun _ => ⟨rfl, rfl, rfl⟩⟩⟩)
  ·
    subst eg3
    have z175 : ¬ (((0 : Int32).toInt ≤ x1.toInt) ∧ (x1.toInt ≤ ((i 7455) - 1).toInt)) := hg3
    refine ft_go mi_k215 2 29 [(0, .ref 116), (1, .int x1), (2, .int x2), (3, .int x3)] [.int 0] (ku i 7457 0) a q r (by rfl) ?_
    exact ft_ret mi_k215 (by rfl) (hP 0 _ _ _ _ hJ1 ⟨trivial, ⟨fun h => absurd h (or119 s2 z175 kor1 kor0), fun _ => ⟨rfl, rfl, rfl⟩⟩⟩)
def yw14_94_l10_K0 : kW := ([], [], [], [])
set_option maxRecDepth 100000 in
theorem ke14_94_l10_K0 {i : Nat → Int32} {a : Nat → List Int32} {q : Nat → List Int64} {r : Nat → Nat} (hI : kI i a q) (hr : kr r) (x1 : Int32) (x3 : Int32) (x4 : Int32) (hp0 : ((0 : Int) ≤ x1.toInt) ∧ (x1.toInt ≤ 49)) (hp1 : ((a 95).getD x1.toNatClampNeg 0).toInt = 0) (hp2 : ((0 : Int) ≤ x4.toInt) ∧ ((x4.toInt + 0) ≤ 39)) (hp3 : ((0 : Int) ≤ (i 6019).toInt) ∧ (((i 6019).toInt + 0) ≤ 900)) : km 1 14 [.ref 94, .int x1, .int 0, .int x3, .int x4] (ks i a q r) (kVI yw14_94_l10_K0 i a q r (fun v i1 a1 q1 r1 => ((i1 6019).toInt = ((i 6019).toInt + 0)) ∧ (v = av0_0_0 x1 x3 ∧ trS (a 96) (i 6019) (a1 96) (i1 6019) []))) := by
  have hG := kG_self yw14_94_l10_K0 hI hr
  refine km_ofI (q := (mi_h14, mi_c14)) rfl (by decide) (Nat.le_of_ble_eq_true rfl) ?_
  intro P hP
  have r1 : ((0 : Int) ≤ ((a 95).getD x1.toNatClampNeg 0).toInt) ∧ (((a 95).getD x1.toNatClampNeg 0).toInt ≤ 7) := hG.I.2.2.1 95 (x1.toNatClampNeg)
  have fi_6019 : ((0 : Int) ≤ (i 6019).toInt) ∧ ((i 6019).toInt ≤ 1000) := hG.I.1 6019
  refine ft_go mi_k14 3 5 [(0, .ref 94), (1, .int x1), (2, .int 0), (3, .int x3), (4, .int x4)] [.int x1, .ref 95] i a q r (by rfl) ?_
  refine ko_iald3 mi_k14.1 (n := 50) (c := 50) (ax := (0, 0, 0, 0, 0)) (mi_k14.2 _ _ (by rfl)) (by rfl) (ksG95 _ _ _ _) (hG.I.2.1 95) rfl (or14 hp0.1) (or20 hp0.2) ?_
  refine ko_eq (x1 := (6, [(0, .ref 94), (1, .int x1), (2, .int 0), (3, .int x3), (4, .int x4)], [.int 0], (0, 0), ks i a q r)) (by rw [(kj_eq (or129 hp1 r1.1) (by decide) : ((a 95).getD x1.toNatClampNeg 0) = 0)]) ?_
  have b2 : ((-2147483648 : Int) ≤ x3.toInt) ∧ (x3.toInt ≤ 2147483647) := kd_bd x3
  have b3 : ((-2147483648 : Int) ≤ x1.toInt) ∧ (x1.toInt ≤ 2147483647) := kd_bd x1
  refine ft_go mi_k14 6 39 [(5, .int 0), (0, .ref 94), (1, .int x1), (2, .int 0), (3, .int x3), (4, .int x4)] [.int (x3 + x1)] i a q r (by rfl) ?_
  exact ft_ret mi_k14 (by rfl) (hP (x3 + x1) _ _ _ _ hG ⟨or130, ⟨(show (x3 + x1) = av0_0_0 x1 x3 from rfl), tr_nil (or18 fi_6019.1)⟩⟩)
def yw13_94_l10_l20_K0 : kW := ([6019], [96], [], [])
set_option maxRecDepth 100000 in
theorem ke13_94_l10_l20_K0 {i : Nat → Int32} {a : Nat → List Int32} {q : Nat → List Int64} {r : Nat → Nat} (hI : kI i a q) (hr : kr r) (x1 : Int32) (x4 : Int32) (x5 : Int32) (hp0 : ((0 : Int) ≤ x1.toInt) ∧ (x1.toInt ≤ 49)) (hp1 : ((a 95).getD x1.toNatClampNeg 0).toInt = 0) (hp2 : ((0 : Int) ≤ x5.toInt) ∧ ((x5.toInt + 1) ≤ 39)) (hp3 : ((0 : Int) ≤ (i 6019).toInt) ∧ (((i 6019).toInt + 1) ≤ 900)) : km 3 13 [.ref 94, .int x1, .int 0, .int 0, .int x4, .int x5] (ks i a q r) (kVI yw13_94_l10_l20_K0 i a q r (fun v i1 a1 q1 r1 => ((i1 6019).toInt = ((i 6019).toInt + 1)) ∧ (v = av0_0_0 x1 x4 ∧ trS (a 96) (i 6019) (a1 96) (i1 6019) [1]))) := by
  have hG := kG_self yw13_94_l10_l20_K0 hI hr
  refine km_ofI (q := (mi_h13, mi_c13)) rfl (by decide) (Nat.le_of_ble_eq_true rfl) ?_
  intro P hP
  have r1 : ((0 : Int) ≤ ((a 95).getD x1.toNatClampNeg 0).toInt) ∧ (((a 95).getD x1.toNatClampNeg 0).toInt ≤ 7) := hG.I.2.2.1 95 (x1.toNatClampNeg)
  have fi_6019 : ((0 : Int) ≤ (i 6019).toInt) ∧ ((i 6019).toInt ≤ 1000) := hG.I.1 6019
  refine ft_go mi_k13 2 4 [(0, .ref 94), (1, .int x1), (2, .int 0), (3, .int 0), (4, .int x4), (5, .int x5)] [.int 40, .int x5] i a q r (by rfl) ?_
  refine ft_if mi_k13 (decide (x5 < 40)) 9 7 [(0, .ref 94), (1, .int x1), (2, .int 0), (3, .int 0), (4, .int x4), (5, .int x5)] [] (by rfl) (fun c => ?_) (fun c => ?_)
  ·
    have c2 : x5.toInt < (40 : Int32).toInt := kd_lt c; clear c
    refine ft_go mi_k13 2 11 [(0, .ref 94), (1, .int x1), (2, .int 0), (3, .int 0), (4, .int x4), (5, .int x5)] [.int 0, .int 0] i a q r (by rfl) ?_
    refine ko_callPI mi_k13.1 (pc := 11) (ls := [(0, .ref 94), (1, .int x1), (2, .int 0), (3, .int 0), (4, .int x4), (5, .int x5)]) (st := [.int 0, .int 0]) (h := ks i a q r) (i := (.invokestatic 39, 3, 11, 0, 9, 0, 298)) (mi_k13.2 _ _ (by rfl)) (ft_invS mi_pq11 (by rfl)) (cy := mi_c11) mi_pq11 rfl (kc11_l00_l10 hG.I hG.R ) (by decide) ?_
    intro vg3 hg3
    have z4 : vg3.toInt = 0 := hg3
    have evvg3 := kj_eq (or37 z4) (by decide : (0 : Int32).toInt = 0)
    subst evvg3
    refine ft_go mi_k13 5 23 [(6, .int 0), (0, .ref 94), (1, .int x1), (2, .int 0), (3, .int 0), (4, .int x4), (5, .int x5)] [.int (0 * 4), .ref (mi_RO + 3)] i a q r (by rfl) ?_
    refine ko_eq (x1 := (23, [(6, .int 0), (0, .ref 94), (1, .int x1), (2, .int 0), (3, .int 0), (4, .int x4), (5, .int x5)], [.int 0, .ref (mi_RO + 3)], (0, 0), ks i a q r)) (by rw [(by decide : (0 * 4 : Int32) = 0)]) ?_
    refine ft_go mi_k13 2 25 [(6, .int 0), (0, .ref 94), (1, .int x1), (2, .int 0), (3, .int 0), (4, .int x4), (5, .int x5)] [.int (0 + 0), .ref (mi_RO + 3)] i a q r (by rfl) ?_
    refine ko_eq (x1 := (25, [(6, .int 0), (0, .ref 94), (1, .int x1), (2, .int 0), (3, .int 0), (4, .int x4), (5, .int x5)], [.int 0, .ref (mi_RO + 3)], (0, 0), ks i a q r)) (by rw [(by decide : (0 + 0 : Int32) = 0)]) ?_
    refine ko_iaro2 mi_k13.1 (l := [1, 10, 11, 2, 20, 0, 0, 0, 0, 30, 0, 0, 0, 41, 40, 0, 0, 0, 50, 0, 0, 0, 0, 60, 70, 0, 0, 0, 0, 80, 0, 81]) (n := 32) (c := 32) (ax := (0, 0, 0, 0, 0)) (mi_k13.2 _ _ (by rfl)) (by rfl) (by rfl) rfl rfl (or0 kor0) (or126 kor0) ?_
    have r5 : ((0 : Int) ≤ (([1, 10, 11, 2, 20, 0, 0, 0, 0, 30, 0, 0, 0, 41, 40, 0, 0, 0, 50, 0, 0, 0, 0, 60, 70, 0, 0, 0, 0, 80, 0, 81] : List Int32).getD (0 : Int32).toNatClampNeg 0).toInt) ∧ ((([1, 10, 11, 2, 20, 0, 0, 0, 0, 30, 0, 0, 0, 41, 40, 0, 0, 0, 50, 0, 0, 0, 0, 60, 70, 0, 0, 0, 0, 80, 0, 81] : List Int32).getD (0 : Int32).toNatClampNeg 0).toInt ≤ 81) := kro_rng (lo := 0) (hi := 81) (by decide) ((0 : Int32).toNatClampNeg)
    refine ko_eq (x1 := (26, [(6, .int 0), (0, .ref 94), (1, .int x1), (2, .int 0), (3, .int 0), (4, .int x4), (5, .int x5)], [.int 1], (0, 0), ks i a q r)) (by rw [(by decide : (([1, 10, 11, 2, 20, 0, 0, 0, 0, 30, 0, 0, 0, 41, 40, 0, 0, 0, 50, 0, 0, 0, 0, 60, 70, 0, 0, 0, 0, 80, 0, 81] : List Int32).getD (0 : Int32).toNatClampNeg 0) = 1)]) ?_
    refine ft_go mi_k13 4 34 [(7, .int 1), (6, .int 0), (0, .ref 94), (1, .int x1), (2, .int 0), (3, .int 0), (4, .int x4), (5, .int x5)] [.int 24, .int (i 6019)] i a q r (by rfl) ?_
    refine ft_if mi_k13 (decide (24 ≤ (i 6019))) 48 37 [(7, .int 1), (6, .int 0), (0, .ref 94), (1, .int x1), (2, .int 0), (3, .int 0), (4, .int x4), (5, .int x5)] [] (by rfl) (fun c => ?_) (fun c => ?_)
    ·
      have c6 : (24 : Int32).toInt ≤ (i 6019).toInt := kd_le c; clear c
      have s7 : ((i 6019) + 1).toInt = (i 6019).toInt + (1 : Int32).toInt := kd_add (or6 c6 kor24 kor1) (or7 fi_6019.2 kor1)
      have hJ8 := kG_i hG 6019 rfl (v := ((i 6019) + 1)) ⟨(or8 c6 s7 kor24 kor1), (or127 hp3.2 s7 kor1)⟩
      have s9 : (x5 + 1).toInt = x5.toInt + (1 : Int32).toInt := kd_add (or16 hp2.1 kor1) (or128 hp2.2 kor1)
      refine ft_go mi_k13 15 72 [(7, .int 1), (6, .int 0), (0, .ref 94), (1, .int x1), (2, .int 0), (3, .int 0), (4, .int x4), (5, .int x5)] [.int (x5 + 1), .int x4, .int 0, .int x1, .ref 94] (ku i 6019 ((i 6019) + 1)) a q r (by rfl) ?_
      refine ko_callI mi_k13.1 (pc := 72) (ls := [(7, .int 1), (6, .int 0), (0, .ref 94), (1, .int x1), (2, .int 0), (3, .int 0), (4, .int x4), (5, .int x5)]) (st := [.int (x5 + 1), .int x4, .int 0, .int x1, .ref 94]) (h := ks (ku i 6019 ((i 6019) + 1)) a q r) (i := (.invokevirtual 43, 3, 14, 0, 9, 0, 301)) (mi_k13.2 _ _ (by rfl)) (ft_invS mi_pq14 (by rfl)) (cy := mi_c14) mi_pq14 rfl (ke14_94_l10_K0 hJ8.I hJ8.R x1 x4 (x5 + 1) (or25 hp0.1 hp0.2) (or129 hp1 r1.1) (or131 hp2.1 hp2.2 s9 kor1) (or132 c6 hp3.2 s7 kor24 kor1)) (by decide) ?_
      intro vg10 ig10 ag10 qg10 rg10 kg10 hg10
      have hGg10 := kG_call hJ8 kg10 (by decide +kernel)
      obtain ⟨hg10, og10⟩ := hg10
      have fig10_6019 : ((0 : Int) ≤ (ig10 6019).toInt) ∧ ((ig10 6019).toInt ≤ 1000) := hGg10.I.1 6019
      have efig10_6019 : (ig10 6019).toInt = ((i 6019) + 1).toInt := kg10.ti 6019 rfl
      have z11 : (ig10 6019).toInt = (((i 6019) + 1).toInt + 0) := hg10
      have q12 : vg10 = av0_0_0 x1 x4 := og10.1
      have t13 : trS (a 96) ((i 6019) + 1) (ag10 96) (ig10 6019) [] := og10.2
      exact ft_ret mi_k13 (by rfl) (hP vg10 _ _ _ _ hGg10 ⟨(or133 efig10_6019 s7 kor1), ⟨(show vg10 = av0_0_0 x1 x4 from congrArg (fun z0_ => z0_) q12), (tr_app (es := [1]) (show trS (a 96) (i 6019) (a 96) ((i 6019) + 1) [1] from tr_no (or11 c6 kor24) (or13 c6 kor24) rfl (or12 s7 kor1)) t13 (by rfl))⟩⟩)
    ·
      have c14 : (i 6019).toInt < (24 : Int32).toInt := kd_leF c; clear c
      refine ft_go mi_k13 5 47 [(7, .int 1), (6, .int 0), (0, .ref 94), (1, .int x1), (2, .int 0), (3, .int 0), (4, .int x4), (5, .int x5)] [.int 1, .int (i 6019), .ref 96] i a q r (by rfl) ?_
      refine ko_iast3 mi_k13.1 (n := 24) (c := 24) (ax := (0, 0, 0, 0, 0)) (mi_k13.2 _ _ (by rfl)) (by rfl) (ksG96 _ _ _ _) (ksA96 _ _ _ _) (hG.I.2.1 96) rfl (or14 fi_6019.1) (or15 c14 kor24) ?_
      intro a15 ea15 fa15
      have hJ15 := kG_a3 hG 96 rfl ea15 fa15 (kd_bd _)
      have s16 : ((i 6019) + 1).toInt = (i 6019).toInt + (1 : Int32).toInt := kd_add (or16 fi_6019.1 kor1) (or7 fi_6019.2 kor1)
      have hJ17 := kG_i hJ15 6019 rfl (v := ((i 6019) + 1)) ⟨(or17 fi_6019.1 s16 kor1), (or127 hp3.2 s16 kor1)⟩
      have s18 : (x5 + 1).toInt = x5.toInt + (1 : Int32).toInt := kd_add (or16 hp2.1 kor1) (or128 hp2.2 kor1)
      refine ft_go mi_k13 15 72 [(7, .int 1), (6, .int 0), (0, .ref 94), (1, .int x1), (2, .int 0), (3, .int 0), (4, .int x4), (5, .int x5)] [.int (x5 + 1), .int x4, .int 0, .int x1, .ref 94] (ku i 6019 ((i 6019) + 1)) a15 q r (by rfl) ?_
      have r19 : ((0 : Int) ≤ ((a15 95).getD x1.toNatClampNeg 0).toInt) ∧ (((a15 95).getD x1.toNatClampNeg 0).toInt ≤ 7) := hJ17.I.2.2.1 95 (x1.toNatClampNeg)
      have u20 : ((a15 95).getD x1.toNatClampNeg 0).toInt = ((a 95).getD x1.toNatClampNeg 0).toInt := congrArg (fun z : List Int32 => (z.getD x1.toNatClampNeg 0).toInt) (fa15 95 (by decide))
      refine ko_callI mi_k13.1 (pc := 72) (ls := [(7, .int 1), (6, .int 0), (0, .ref 94), (1, .int x1), (2, .int 0), (3, .int 0), (4, .int x4), (5, .int x5)]) (st := [.int (x5 + 1), .int x4, .int 0, .int x1, .ref 94]) (h := ks (ku i 6019 ((i 6019) + 1)) a15 q r) (i := (.invokevirtual 43, 3, 14, 0, 9, 0, 301)) (mi_k13.2 _ _ (by rfl)) (ft_invS mi_pq14 (by rfl)) (cy := mi_c14) mi_pq14 rfl (ke14_94_l10_K0 hJ17.I hJ17.R x1 x4 (x5 + 1) (or25 hp0.1 hp0.2) (or21 hp1 r19.1 u20) (or131 hp2.1 hp2.2 s18 kor1) (or134 fi_6019.1 hp3.2 s16 kor1)) (by decide) ?_
      intro vg21 ig21 ag21 qg21 rg21 kg21 hg21
      have hGg21 := kG_call hJ17 kg21 (by decide +kernel)
      obtain ⟨hg21, og21⟩ := hg21
      have fig21_6019 : ((0 : Int) ≤ (ig21 6019).toInt) ∧ ((ig21 6019).toInt ≤ 1000) := hGg21.I.1 6019
      have efig21_6019 : (ig21 6019).toInt = ((i 6019) + 1).toInt := kg21.ti 6019 rfl
      have z22 : (ig21 6019).toInt = (((i 6019) + 1).toInt + 0) := hg21
      have q23 : vg21 = av0_0_0 x1 x4 := og21.1
      have t24 : trS (a15 96) ((i 6019) + 1) (ag21 96) (ig21 6019) [] := og21.2
      exact ft_ret mi_k13 (by rfl) (hP vg21 _ _ _ _ hGg21 ⟨(or133 efig21_6019 s16 kor1), ⟨(show vg21 = av0_0_0 x1 x4 from congrArg (fun z0_ => z0_) q23), (tr_app (es := [1]) (show trS (a 96) (i 6019) (a15 96) ((i 6019) + 1) [1] from tr_st (or18 fi_6019.1) (or15 c14 kor24) (kset_o ea15 rfl) (or12 s16 kor1)) t24 (by rfl))⟩⟩)
  ·
    have c25 : (40 : Int32).toInt ≤ x5.toInt := kd_ltF c; clear c
    exact (or135 c25 hp2.2 kor40).elim
def yw14_94_l11_K0 : kW := ([6019], [96], [], [])
set_option maxRecDepth 100000 in
theorem ke14_94_l11_K0 {i : Nat → Int32} {a : Nat → List Int32} {q : Nat → List Int64} {r : Nat → Nat} (hI : kI i a q) (hr : kr r) (x1 : Int32) (x3 : Int32) (x4 : Int32) (hp0 : ((0 : Int) ≤ x1.toInt) ∧ (x1.toInt ≤ 49)) (hp1 : ((a 95).getD x1.toNatClampNeg 0).toInt = 0) (hp2 : ((0 : Int) ≤ x4.toInt) ∧ ((x4.toInt + 1) ≤ 39)) (hp3 : ((0 : Int) ≤ (i 6019).toInt) ∧ (((i 6019).toInt + 1) ≤ 900)) : km 5 14 [.ref 94, .int x1, .int 1, .int x3, .int x4] (ks i a q r) (kVI yw14_94_l11_K0 i a q r (fun v i1 a1 q1 r1 => ((i1 6019).toInt = ((i 6019).toInt + 1)) ∧ (v = av0_1_0 x1 x3 ∧ trS (a 96) (i 6019) (a1 96) (i1 6019) [1]))) := by
  have hG := kG_self yw14_94_l11_K0 hI hr
  refine km_ofI (q := (mi_h14, mi_c14)) rfl (by decide) (Nat.le_of_ble_eq_true rfl) ?_
  intro P hP
  have r1 : ((0 : Int) ≤ ((a 95).getD x1.toNatClampNeg 0).toInt) ∧ (((a 95).getD x1.toNatClampNeg 0).toInt ≤ 7) := hG.I.2.2.1 95 (x1.toNatClampNeg)
  have fi_6019 : ((0 : Int) ≤ (i 6019).toInt) ∧ ((i 6019).toInt ≤ 1000) := hG.I.1 6019
  refine ft_go mi_k14 3 5 [(0, .ref 94), (1, .int x1), (2, .int 1), (3, .int x3), (4, .int x4)] [.int x1, .ref 95] i a q r (by rfl) ?_
  refine ko_iald3 mi_k14.1 (n := 50) (c := 50) (ax := (0, 0, 0, 0, 0)) (mi_k14.2 _ _ (by rfl)) (by rfl) (ksG95 _ _ _ _) (hG.I.2.1 95) rfl (or14 hp0.1) (or20 hp0.2) ?_
  refine ko_eq (x1 := (6, [(0, .ref 94), (1, .int x1), (2, .int 1), (3, .int x3), (4, .int x4)], [.int 0], (0, 0), ks i a q r)) (by rw [(kj_eq (or129 hp1 r1.1) (by decide) : ((a 95).getD x1.toNatClampNeg 0) = 0)]) ?_
  refine ft_go mi_k14 9 48 [(5, .int 0), (0, .ref 94), (1, .int x1), (2, .int 1), (3, .int x3), (4, .int x4)] [.int x4, .int x3, .int 0, .int 0, .int x1, .ref 94] i a q r (by rfl) ?_
  refine ko_callI mi_k14.1 (pc := 48) (ls := [(5, .int 0), (0, .ref 94), (1, .int x1), (2, .int 1), (3, .int x3), (4, .int x4)]) (st := [.int x4, .int x3, .int 0, .int 0, .int x1, .ref 94]) (h := ks i a q r) (i := (.invokevirtual 35, 3, 13, 0, 9, 0, 297)) (mi_k14.2 _ _ (by rfl)) (ft_invS mi_pq13 (by rfl)) (cy := mi_c13) mi_pq13 rfl (ke13_94_l10_l20_K0 hG.I hG.R x1 x3 x4 (or25 hp0.1 hp0.2) (or129 hp1 r1.1) (or144 hp2.1 hp2.2) (or48 fi_6019.1 hp3.2)) (by decide) ?_
  intro vg2 ig2 ag2 qg2 rg2 kg2 hg2
  have hGg2 := kG_call hG kg2 (by decide +kernel)
  obtain ⟨hg2, og2⟩ := hg2
  have fig2_6019 : ((0 : Int) ≤ (ig2 6019).toInt) ∧ ((ig2 6019).toInt ≤ 1000) := hGg2.I.1 6019
  have z3 : (ig2 6019).toInt = ((i 6019).toInt + 1) := hg2
  have q4 : vg2 = av0_0_0 x1 x3 := og2.1
  have t5 : trS (a 96) (i 6019) (ag2 96) (ig2 6019) [1] := og2.2
  have b6 : ((-2147483648 : Int) ≤ vg2.toInt) ∧ (vg2.toInt ≤ 2147483647) := kd_bd vg2
  refine ft_go mi_k14 2 53 [(5, .int 0), (0, .ref 94), (1, .int x1), (2, .int 1), (3, .int x3), (4, .int x4)] [.int (vg2 * 2)] ig2 ag2 qg2 rg2 (by rfl) ?_
  exact ft_ret mi_k14 (by rfl) (hP (vg2 * 2) _ _ _ _ hGg2 ⟨(or24 z3), ⟨(show (vg2 * 2) = av0_1_0 x1 x3 from congrArg (fun z0_ => (z0_ * 2)) q4), t5⟩⟩)
def yw13_94_l10_l21_K0 : kW := ([6019], [96], [], [])
set_option maxRecDepth 100000 in
theorem ke13_94_l10_l21_K0 {i : Nat → Int32} {a : Nat → List Int32} {q : Nat → List Int64} {r : Nat → Nat} (hI : kI i a q) (hr : kr r) (x1 : Int32) (x4 : Int32) (x5 : Int32) (hp0 : ((0 : Int) ≤ x1.toInt) ∧ (x1.toInt ≤ 49)) (hp1 : ((a 95).getD x1.toNatClampNeg 0).toInt = 0) (hp2 : ((0 : Int) ≤ x5.toInt) ∧ ((x5.toInt + 2) ≤ 39)) (hp3 : ((0 : Int) ≤ (i 6019).toInt) ∧ (((i 6019).toInt + 2) ≤ 900)) : km 7 13 [.ref 94, .int x1, .int 0, .int 1, .int x4, .int x5] (ks i a q r) (kVI yw13_94_l10_l21_K0 i a q r (fun v i1 a1 q1 r1 => ((i1 6019).toInt = ((i 6019).toInt + 2)) ∧ (v = av0_1_0 x1 x4 ∧ trS (a 96) (i 6019) (a1 96) (i1 6019) [10, 1]))) := by
  have hG := kG_self yw13_94_l10_l21_K0 hI hr
  refine km_ofI (q := (mi_h13, mi_c13)) rfl (by decide) (Nat.le_of_ble_eq_true rfl) ?_
  intro P hP
  have r1 : ((0 : Int) ≤ ((a 95).getD x1.toNatClampNeg 0).toInt) ∧ (((a 95).getD x1.toNatClampNeg 0).toInt ≤ 7) := hG.I.2.2.1 95 (x1.toNatClampNeg)
  have fi_6019 : ((0 : Int) ≤ (i 6019).toInt) ∧ ((i 6019).toInt ≤ 1000) := hG.I.1 6019
  refine ft_go mi_k13 2 4 [(0, .ref 94), (1, .int x1), (2, .int 0), (3, .int 1), (4, .int x4), (5, .int x5)] [.int 40, .int x5] i a q r (by rfl) ?_
  refine ft_if mi_k13 (decide (x5 < 40)) 9 7 [(0, .ref 94), (1, .int x1), (2, .int 0), (3, .int 1), (4, .int x4), (5, .int x5)] [] (by rfl) (fun c => ?_) (fun c => ?_)
  ·
    have c2 : x5.toInt < (40 : Int32).toInt := kd_lt c; clear c
    refine ft_go mi_k13 2 11 [(0, .ref 94), (1, .int x1), (2, .int 0), (3, .int 1), (4, .int x4), (5, .int x5)] [.int 1, .int 0] i a q r (by rfl) ?_
    refine ko_callPI mi_k13.1 (pc := 11) (ls := [(0, .ref 94), (1, .int x1), (2, .int 0), (3, .int 1), (4, .int x4), (5, .int x5)]) (st := [.int 1, .int 0]) (h := ks i a q r) (i := (.invokestatic 39, 3, 11, 0, 9, 0, 298)) (mi_k13.2 _ _ (by rfl)) (ft_invS mi_pq11 (by rfl)) (cy := mi_c11) mi_pq11 rfl (kc11_l00_l11 hG.I hG.R ) (by decide) ?_
    intro vg3 hg3
    have z4 : vg3.toInt = 0 := hg3
    have evvg3 := kj_eq (or37 z4) (by decide : (0 : Int32).toInt = 0)
    subst evvg3
    refine ft_go mi_k13 5 23 [(6, .int 0), (0, .ref 94), (1, .int x1), (2, .int 0), (3, .int 1), (4, .int x4), (5, .int x5)] [.int (0 * 4), .ref (mi_RO + 3)] i a q r (by rfl) ?_
    refine ko_eq (x1 := (23, [(6, .int 0), (0, .ref 94), (1, .int x1), (2, .int 0), (3, .int 1), (4, .int x4), (5, .int x5)], [.int 0, .ref (mi_RO + 3)], (0, 0), ks i a q r)) (by rw [(by decide : (0 * 4 : Int32) = 0)]) ?_
    refine ft_go mi_k13 2 25 [(6, .int 0), (0, .ref 94), (1, .int x1), (2, .int 0), (3, .int 1), (4, .int x4), (5, .int x5)] [.int (0 + 1), .ref (mi_RO + 3)] i a q r (by rfl) ?_
    refine ko_eq (x1 := (25, [(6, .int 0), (0, .ref 94), (1, .int x1), (2, .int 0), (3, .int 1), (4, .int x4), (5, .int x5)], [.int 1, .ref (mi_RO + 3)], (0, 0), ks i a q r)) (by rw [(by decide : (0 + 1 : Int32) = 1)]) ?_
    refine ko_iaro2 mi_k13.1 (l := [1, 10, 11, 2, 20, 0, 0, 0, 0, 30, 0, 0, 0, 41, 40, 0, 0, 0, 50, 0, 0, 0, 0, 60, 70, 0, 0, 0, 0, 80, 0, 81]) (n := 32) (c := 32) (ax := (0, 0, 0, 0, 0)) (mi_k13.2 _ _ (by rfl)) (by rfl) (by rfl) rfl rfl (or140 kor1) (or141 kor1) ?_
    have r5 : ((0 : Int) ≤ (([1, 10, 11, 2, 20, 0, 0, 0, 0, 30, 0, 0, 0, 41, 40, 0, 0, 0, 50, 0, 0, 0, 0, 60, 70, 0, 0, 0, 0, 80, 0, 81] : List Int32).getD (1 : Int32).toNatClampNeg 0).toInt) ∧ ((([1, 10, 11, 2, 20, 0, 0, 0, 0, 30, 0, 0, 0, 41, 40, 0, 0, 0, 50, 0, 0, 0, 0, 60, 70, 0, 0, 0, 0, 80, 0, 81] : List Int32).getD (1 : Int32).toNatClampNeg 0).toInt ≤ 81) := kro_rng (lo := 0) (hi := 81) (by decide) ((1 : Int32).toNatClampNeg)
    refine ko_eq (x1 := (26, [(6, .int 0), (0, .ref 94), (1, .int x1), (2, .int 0), (3, .int 1), (4, .int x4), (5, .int x5)], [.int 10], (0, 0), ks i a q r)) (by rw [(by decide : (([1, 10, 11, 2, 20, 0, 0, 0, 0, 30, 0, 0, 0, 41, 40, 0, 0, 0, 50, 0, 0, 0, 0, 60, 70, 0, 0, 0, 0, 80, 0, 81] : List Int32).getD (1 : Int32).toNatClampNeg 0) = 10)]) ?_
    refine ft_go mi_k13 4 34 [(7, .int 10), (6, .int 0), (0, .ref 94), (1, .int x1), (2, .int 0), (3, .int 1), (4, .int x4), (5, .int x5)] [.int 24, .int (i 6019)] i a q r (by rfl) ?_
    refine ft_if mi_k13 (decide (24 ≤ (i 6019))) 48 37 [(7, .int 10), (6, .int 0), (0, .ref 94), (1, .int x1), (2, .int 0), (3, .int 1), (4, .int x4), (5, .int x5)] [] (by rfl) (fun c => ?_) (fun c => ?_)
    ·
      have c6 : (24 : Int32).toInt ≤ (i 6019).toInt := kd_le c; clear c
      have s7 : ((i 6019) + 1).toInt = (i 6019).toInt + (1 : Int32).toInt := kd_add (or6 c6 kor24 kor1) (or7 fi_6019.2 kor1)
      have hJ8 := kG_i hG 6019 rfl (v := ((i 6019) + 1)) ⟨(or8 c6 s7 kor24 kor1), (or142 hp3.2 s7 kor1)⟩
      have s9 : (x5 + 1).toInt = x5.toInt + (1 : Int32).toInt := kd_add (or16 hp2.1 kor1) (or143 hp2.2 kor1)
      refine ft_go mi_k13 15 72 [(7, .int 10), (6, .int 0), (0, .ref 94), (1, .int x1), (2, .int 0), (3, .int 1), (4, .int x4), (5, .int x5)] [.int (x5 + 1), .int x4, .int 1, .int x1, .ref 94] (ku i 6019 ((i 6019) + 1)) a q r (by rfl) ?_
      refine ko_callI mi_k13.1 (pc := 72) (ls := [(7, .int 10), (6, .int 0), (0, .ref 94), (1, .int x1), (2, .int 0), (3, .int 1), (4, .int x4), (5, .int x5)]) (st := [.int (x5 + 1), .int x4, .int 1, .int x1, .ref 94]) (h := ks (ku i 6019 ((i 6019) + 1)) a q r) (i := (.invokevirtual 43, 3, 14, 0, 9, 0, 301)) (mi_k13.2 _ _ (by rfl)) (ft_invS mi_pq14 (by rfl)) (cy := mi_c14) mi_pq14 rfl (ke14_94_l11_K0 hJ8.I hJ8.R x1 x4 (x5 + 1) (or25 hp0.1 hp0.2) (or129 hp1 r1.1) (or145 hp2.1 hp2.2 s9 kor1) (or146 c6 hp3.2 s7 kor24 kor1)) (by decide) ?_
      intro vg10 ig10 ag10 qg10 rg10 kg10 hg10
      have hGg10 := kG_call hJ8 kg10 (by decide +kernel)
      obtain ⟨hg10, og10⟩ := hg10
      have fig10_6019 : ((0 : Int) ≤ (ig10 6019).toInt) ∧ ((ig10 6019).toInt ≤ 1000) := hGg10.I.1 6019
      have z11 : (ig10 6019).toInt = (((i 6019) + 1).toInt + 1) := hg10
      have q12 : vg10 = av0_1_0 x1 x4 := og10.1
      have t13 : trS (a 96) ((i 6019) + 1) (ag10 96) (ig10 6019) [1] := og10.2
      exact ft_ret mi_k13 (by rfl) (hP vg10 _ _ _ _ hGg10 ⟨(or147 s7 z11 kor1), ⟨(show vg10 = av0_1_0 x1 x4 from congrArg (fun z0_ => z0_) q12), (tr_app (es := [10, 1]) (show trS (a 96) (i 6019) (a 96) ((i 6019) + 1) [10] from tr_no (or11 c6 kor24) (or13 c6 kor24) rfl (or12 s7 kor1)) t13 (by rfl))⟩⟩)
    ·
      have c14 : (i 6019).toInt < (24 : Int32).toInt := kd_leF c; clear c
      refine ft_go mi_k13 5 47 [(7, .int 10), (6, .int 0), (0, .ref 94), (1, .int x1), (2, .int 0), (3, .int 1), (4, .int x4), (5, .int x5)] [.int 10, .int (i 6019), .ref 96] i a q r (by rfl) ?_
      refine ko_iast3 mi_k13.1 (n := 24) (c := 24) (ax := (0, 0, 0, 0, 0)) (mi_k13.2 _ _ (by rfl)) (by rfl) (ksG96 _ _ _ _) (ksA96 _ _ _ _) (hG.I.2.1 96) rfl (or14 fi_6019.1) (or15 c14 kor24) ?_
      intro a15 ea15 fa15
      have hJ15 := kG_a3 hG 96 rfl ea15 fa15 (kd_bd _)
      have s16 : ((i 6019) + 1).toInt = (i 6019).toInt + (1 : Int32).toInt := kd_add (or16 fi_6019.1 kor1) (or7 fi_6019.2 kor1)
      have hJ17 := kG_i hJ15 6019 rfl (v := ((i 6019) + 1)) ⟨(or17 fi_6019.1 s16 kor1), (or142 hp3.2 s16 kor1)⟩
      have s18 : (x5 + 1).toInt = x5.toInt + (1 : Int32).toInt := kd_add (or16 hp2.1 kor1) (or143 hp2.2 kor1)
      refine ft_go mi_k13 15 72 [(7, .int 10), (6, .int 0), (0, .ref 94), (1, .int x1), (2, .int 0), (3, .int 1), (4, .int x4), (5, .int x5)] [.int (x5 + 1), .int x4, .int 1, .int x1, .ref 94] (ku i 6019 ((i 6019) + 1)) a15 q r (by rfl) ?_
      have r19 : ((0 : Int) ≤ ((a15 95).getD x1.toNatClampNeg 0).toInt) ∧ (((a15 95).getD x1.toNatClampNeg 0).toInt ≤ 7) := hJ17.I.2.2.1 95 (x1.toNatClampNeg)
      have u20 : ((a15 95).getD x1.toNatClampNeg 0).toInt = ((a 95).getD x1.toNatClampNeg 0).toInt := congrArg (fun z : List Int32 => (z.getD x1.toNatClampNeg 0).toInt) (fa15 95 (by decide))
      refine ko_callI mi_k13.1 (pc := 72) (ls := [(7, .int 10), (6, .int 0), (0, .ref 94), (1, .int x1), (2, .int 0), (3, .int 1), (4, .int x4), (5, .int x5)]) (st := [.int (x5 + 1), .int x4, .int 1, .int x1, .ref 94]) (h := ks (ku i 6019 ((i 6019) + 1)) a15 q r) (i := (.invokevirtual 43, 3, 14, 0, 9, 0, 301)) (mi_k13.2 _ _ (by rfl)) (ft_invS mi_pq14 (by rfl)) (cy := mi_c14) mi_pq14 rfl (ke14_94_l11_K0 hJ17.I hJ17.R x1 x4 (x5 + 1) (or25 hp0.1 hp0.2) (or21 hp1 r19.1 u20) (or145 hp2.1 hp2.2 s18 kor1) (or148 fi_6019.1 hp3.2 s16 kor1)) (by decide) ?_
      intro vg21 ig21 ag21 qg21 rg21 kg21 hg21
      have hGg21 := kG_call hJ17 kg21 (by decide +kernel)
      obtain ⟨hg21, og21⟩ := hg21
      have fig21_6019 : ((0 : Int) ≤ (ig21 6019).toInt) ∧ ((ig21 6019).toInt ≤ 1000) := hGg21.I.1 6019
      have z22 : (ig21 6019).toInt = (((i 6019) + 1).toInt + 1) := hg21
      have q23 : vg21 = av0_1_0 x1 x4 := og21.1
      have t24 : trS (a15 96) ((i 6019) + 1) (ag21 96) (ig21 6019) [1] := og21.2
      exact ft_ret mi_k13 (by rfl) (hP vg21 _ _ _ _ hGg21 ⟨(or147 s16 z22 kor1), ⟨(show vg21 = av0_1_0 x1 x4 from congrArg (fun z0_ => z0_) q23), (tr_app (es := [10, 1]) (show trS (a 96) (i 6019) (a15 96) ((i 6019) + 1) [10] from tr_st (or18 fi_6019.1) (or15 c14 kor24) (kset_o ea15 rfl) (or12 s16 kor1)) t24 (by rfl))⟩⟩)
  ·
    have c25 : (40 : Int32).toInt ≤ x5.toInt := kd_ltF c; clear c
    exact (or149 c25 hp2.2 kor40).elim
def yw14_94_l12_K0 : kW := ([], [], [], [])
set_option maxRecDepth 100000 in
theorem ke14_94_l12_K0 {i : Nat → Int32} {a : Nat → List Int32} {q : Nat → List Int64} {r : Nat → Nat} (hI : kI i a q) (hr : kr r) (x1 : Int32) (x3 : Int32) (x4 : Int32) (hp0 : ((0 : Int) ≤ x1.toInt) ∧ (x1.toInt ≤ 49)) (hp1 : ((a 95).getD x1.toNatClampNeg 0).toInt = 0) (hp2 : ((0 : Int) ≤ x4.toInt) ∧ ((x4.toInt + 0) ≤ 39)) (hp3 : ((0 : Int) ≤ (i 6019).toInt) ∧ (((i 6019).toInt + 0) ≤ 900)) : km 1 14 [.ref 94, .int x1, .int 2, .int x3, .int x4] (ks i a q r) (kVI yw14_94_l12_K0 i a q r (fun v i1 a1 q1 r1 => ((i1 6019).toInt = ((i 6019).toInt + 0)) ∧ (v = av0_2_0 x1 x3 ∧ trS (a 96) (i 6019) (a1 96) (i1 6019) []))) := by
  have hG := kG_self yw14_94_l12_K0 hI hr
  refine km_ofI (q := (mi_h14, mi_c14)) rfl (by decide) (Nat.le_of_ble_eq_true rfl) ?_
  intro P hP
  have r1 : ((0 : Int) ≤ ((a 95).getD x1.toNatClampNeg 0).toInt) ∧ (((a 95).getD x1.toNatClampNeg 0).toInt ≤ 7) := hG.I.2.2.1 95 (x1.toNatClampNeg)
  have fi_6019 : ((0 : Int) ≤ (i 6019).toInt) ∧ ((i 6019).toInt ≤ 1000) := hG.I.1 6019
  refine ft_go mi_k14 3 5 [(0, .ref 94), (1, .int x1), (2, .int 2), (3, .int x3), (4, .int x4)] [.int x1, .ref 95] i a q r (by rfl) ?_
  refine ko_iald3 mi_k14.1 (n := 50) (c := 50) (ax := (0, 0, 0, 0, 0)) (mi_k14.2 _ _ (by rfl)) (by rfl) (ksG95 _ _ _ _) (hG.I.2.1 95) rfl (or14 hp0.1) (or20 hp0.2) ?_
  refine ko_eq (x1 := (6, [(0, .ref 94), (1, .int x1), (2, .int 2), (3, .int x3), (4, .int x4)], [.int 0], (0, 0), ks i a q r)) (by rw [(kj_eq (or129 hp1 r1.1) (by decide) : ((a 95).getD x1.toNatClampNeg 0) = 0)]) ?_
  refine ft_go mi_k14 6 57 [(5, .int 0), (0, .ref 94), (1, .int x1), (2, .int 2), (3, .int x3), (4, .int x4)] [.int (x3 ^^^ x1)] i a q r (by rfl) ?_
  exact ft_ret mi_k14 (by rfl) (hP (x3 ^^^ x1) _ _ _ _ hG ⟨or130, ⟨(show (x3 ^^^ x1) = av0_2_0 x1 x3 from rfl), tr_nil (or18 fi_6019.1)⟩⟩)
def yw13_94_l10_l22_K0 : kW := ([6019], [96], [], [])
set_option maxRecDepth 100000 in
theorem ke13_94_l10_l22_K0 {i : Nat → Int32} {a : Nat → List Int32} {q : Nat → List Int64} {r : Nat → Nat} (hI : kI i a q) (hr : kr r) (x1 : Int32) (x4 : Int32) (x5 : Int32) (hp0 : ((0 : Int) ≤ x1.toInt) ∧ (x1.toInt ≤ 49)) (hp1 : ((a 95).getD x1.toNatClampNeg 0).toInt = 0) (hp2 : ((0 : Int) ≤ x5.toInt) ∧ ((x5.toInt + 1) ≤ 39)) (hp3 : ((0 : Int) ≤ (i 6019).toInt) ∧ (((i 6019).toInt + 1) ≤ 900)) : km 3 13 [.ref 94, .int x1, .int 0, .int 2, .int x4, .int x5] (ks i a q r) (kVI yw13_94_l10_l22_K0 i a q r (fun v i1 a1 q1 r1 => ((i1 6019).toInt = ((i 6019).toInt + 1)) ∧ (v = av0_2_0 x1 x4 ∧ trS (a 96) (i 6019) (a1 96) (i1 6019) [11]))) := by
  have hG := kG_self yw13_94_l10_l22_K0 hI hr
  refine km_ofI (q := (mi_h13, mi_c13)) rfl (by decide) (Nat.le_of_ble_eq_true rfl) ?_
  intro P hP
  have r1 : ((0 : Int) ≤ ((a 95).getD x1.toNatClampNeg 0).toInt) ∧ (((a 95).getD x1.toNatClampNeg 0).toInt ≤ 7) := hG.I.2.2.1 95 (x1.toNatClampNeg)
  have fi_6019 : ((0 : Int) ≤ (i 6019).toInt) ∧ ((i 6019).toInt ≤ 1000) := hG.I.1 6019
  refine ft_go mi_k13 2 4 [(0, .ref 94), (1, .int x1), (2, .int 0), (3, .int 2), (4, .int x4), (5, .int x5)] [.int 40, .int x5] i a q r (by rfl) ?_
  refine ft_if mi_k13 (decide (x5 < 40)) 9 7 [(0, .ref 94), (1, .int x1), (2, .int 0), (3, .int 2), (4, .int x4), (5, .int x5)] [] (by rfl) (fun c => ?_) (fun c => ?_)
  ·
    have c2 : x5.toInt < (40 : Int32).toInt := kd_lt c; clear c
    refine ft_go mi_k13 2 11 [(0, .ref 94), (1, .int x1), (2, .int 0), (3, .int 2), (4, .int x4), (5, .int x5)] [.int 2, .int 0] i a q r (by rfl) ?_
    refine ko_callPI mi_k13.1 (pc := 11) (ls := [(0, .ref 94), (1, .int x1), (2, .int 0), (3, .int 2), (4, .int x4), (5, .int x5)]) (st := [.int 2, .int 0]) (h := ks i a q r) (i := (.invokestatic 39, 3, 11, 0, 9, 0, 298)) (mi_k13.2 _ _ (by rfl)) (ft_invS mi_pq11 (by rfl)) (cy := mi_c11) mi_pq11 rfl (kc11_l00_l12 hG.I hG.R ) (by decide) ?_
    intro vg3 hg3
    have z4 : vg3.toInt = 0 := hg3
    have evvg3 := kj_eq (or37 z4) (by decide : (0 : Int32).toInt = 0)
    subst evvg3
    refine ft_go mi_k13 5 23 [(6, .int 0), (0, .ref 94), (1, .int x1), (2, .int 0), (3, .int 2), (4, .int x4), (5, .int x5)] [.int (0 * 4), .ref (mi_RO + 3)] i a q r (by rfl) ?_
    refine ko_eq (x1 := (23, [(6, .int 0), (0, .ref 94), (1, .int x1), (2, .int 0), (3, .int 2), (4, .int x4), (5, .int x5)], [.int 0, .ref (mi_RO + 3)], (0, 0), ks i a q r)) (by rw [(by decide : (0 * 4 : Int32) = 0)]) ?_
    refine ft_go mi_k13 2 25 [(6, .int 0), (0, .ref 94), (1, .int x1), (2, .int 0), (3, .int 2), (4, .int x4), (5, .int x5)] [.int (0 + 2), .ref (mi_RO + 3)] i a q r (by rfl) ?_
    refine ko_eq (x1 := (25, [(6, .int 0), (0, .ref 94), (1, .int x1), (2, .int 0), (3, .int 2), (4, .int x4), (5, .int x5)], [.int 2, .ref (mi_RO + 3)], (0, 0), ks i a q r)) (by rw [(by decide : (0 + 2 : Int32) = 2)]) ?_
    refine ko_iaro2 mi_k13.1 (l := [1, 10, 11, 2, 20, 0, 0, 0, 0, 30, 0, 0, 0, 41, 40, 0, 0, 0, 50, 0, 0, 0, 0, 60, 70, 0, 0, 0, 0, 80, 0, 81]) (n := 32) (c := 32) (ax := (0, 0, 0, 0, 0)) (mi_k13.2 _ _ (by rfl)) (by rfl) (by rfl) rfl rfl (or152 kor2) (or153 kor2) ?_
    have r5 : ((0 : Int) ≤ (([1, 10, 11, 2, 20, 0, 0, 0, 0, 30, 0, 0, 0, 41, 40, 0, 0, 0, 50, 0, 0, 0, 0, 60, 70, 0, 0, 0, 0, 80, 0, 81] : List Int32).getD (2 : Int32).toNatClampNeg 0).toInt) ∧ ((([1, 10, 11, 2, 20, 0, 0, 0, 0, 30, 0, 0, 0, 41, 40, 0, 0, 0, 50, 0, 0, 0, 0, 60, 70, 0, 0, 0, 0, 80, 0, 81] : List Int32).getD (2 : Int32).toNatClampNeg 0).toInt ≤ 81) := kro_rng (lo := 0) (hi := 81) (by decide) ((2 : Int32).toNatClampNeg)
    refine ko_eq (x1 := (26, [(6, .int 0), (0, .ref 94), (1, .int x1), (2, .int 0), (3, .int 2), (4, .int x4), (5, .int x5)], [.int 11], (0, 0), ks i a q r)) (by rw [(by decide : (([1, 10, 11, 2, 20, 0, 0, 0, 0, 30, 0, 0, 0, 41, 40, 0, 0, 0, 50, 0, 0, 0, 0, 60, 70, 0, 0, 0, 0, 80, 0, 81] : List Int32).getD (2 : Int32).toNatClampNeg 0) = 11)]) ?_
    refine ft_go mi_k13 4 34 [(7, .int 11), (6, .int 0), (0, .ref 94), (1, .int x1), (2, .int 0), (3, .int 2), (4, .int x4), (5, .int x5)] [.int 24, .int (i 6019)] i a q r (by rfl) ?_
    refine ft_if mi_k13 (decide (24 ≤ (i 6019))) 48 37 [(7, .int 11), (6, .int 0), (0, .ref 94), (1, .int x1), (2, .int 0), (3, .int 2), (4, .int x4), (5, .int x5)] [] (by rfl) (fun c => ?_) (fun c => ?_)
    ·
      have c6 : (24 : Int32).toInt ≤ (i 6019).toInt := kd_le c; clear c
      have s7 : ((i 6019) + 1).toInt = (i 6019).toInt + (1 : Int32).toInt := kd_add (or6 c6 kor24 kor1) (or7 fi_6019.2 kor1)
      have hJ8 := kG_i hG 6019 rfl (v := ((i 6019) + 1)) ⟨(or8 c6 s7 kor24 kor1), (or127 hp3.2 s7 kor1)⟩
      have s9 : (x5 + 1).toInt = x5.toInt + (1 : Int32).toInt := kd_add (or16 hp2.1 kor1) (or128 hp2.2 kor1)
      refine ft_go mi_k13 15 72 [(7, .int 11), (6, .int 0), (0, .ref 94), (1, .int x1), (2, .int 0), (3, .int 2), (4, .int x4), (5, .int x5)] [.int (x5 + 1), .int x4, .int 2, .int x1, .ref 94] (ku i 6019 ((i 6019) + 1)) a q r (by rfl) ?_
      refine ko_callI mi_k13.1 (pc := 72) (ls := [(7, .int 11), (6, .int 0), (0, .ref 94), (1, .int x1), (2, .int 0), (3, .int 2), (4, .int x4), (5, .int x5)]) (st := [.int (x5 + 1), .int x4, .int 2, .int x1, .ref 94]) (h := ks (ku i 6019 ((i 6019) + 1)) a q r) (i := (.invokevirtual 43, 3, 14, 0, 9, 0, 301)) (mi_k13.2 _ _ (by rfl)) (ft_invS mi_pq14 (by rfl)) (cy := mi_c14) mi_pq14 rfl (ke14_94_l12_K0 hJ8.I hJ8.R x1 x4 (x5 + 1) (or25 hp0.1 hp0.2) (or129 hp1 r1.1) (or131 hp2.1 hp2.2 s9 kor1) (or132 c6 hp3.2 s7 kor24 kor1)) (by decide) ?_
      intro vg10 ig10 ag10 qg10 rg10 kg10 hg10
      have hGg10 := kG_call hJ8 kg10 (by decide +kernel)
      obtain ⟨hg10, og10⟩ := hg10
      have fig10_6019 : ((0 : Int) ≤ (ig10 6019).toInt) ∧ ((ig10 6019).toInt ≤ 1000) := hGg10.I.1 6019
      have efig10_6019 : (ig10 6019).toInt = ((i 6019) + 1).toInt := kg10.ti 6019 rfl
      have z11 : (ig10 6019).toInt = (((i 6019) + 1).toInt + 0) := hg10
      have q12 : vg10 = av0_2_0 x1 x4 := og10.1
      have t13 : trS (a 96) ((i 6019) + 1) (ag10 96) (ig10 6019) [] := og10.2
      exact ft_ret mi_k13 (by rfl) (hP vg10 _ _ _ _ hGg10 ⟨(or133 efig10_6019 s7 kor1), ⟨(show vg10 = av0_2_0 x1 x4 from congrArg (fun z0_ => z0_) q12), (tr_app (es := [11]) (show trS (a 96) (i 6019) (a 96) ((i 6019) + 1) [11] from tr_no (or11 c6 kor24) (or13 c6 kor24) rfl (or12 s7 kor1)) t13 (by rfl))⟩⟩)
    ·
      have c14 : (i 6019).toInt < (24 : Int32).toInt := kd_leF c; clear c
      refine ft_go mi_k13 5 47 [(7, .int 11), (6, .int 0), (0, .ref 94), (1, .int x1), (2, .int 0), (3, .int 2), (4, .int x4), (5, .int x5)] [.int 11, .int (i 6019), .ref 96] i a q r (by rfl) ?_
      refine ko_iast3 mi_k13.1 (n := 24) (c := 24) (ax := (0, 0, 0, 0, 0)) (mi_k13.2 _ _ (by rfl)) (by rfl) (ksG96 _ _ _ _) (ksA96 _ _ _ _) (hG.I.2.1 96) rfl (or14 fi_6019.1) (or15 c14 kor24) ?_
      intro a15 ea15 fa15
      have hJ15 := kG_a3 hG 96 rfl ea15 fa15 (kd_bd _)
      have s16 : ((i 6019) + 1).toInt = (i 6019).toInt + (1 : Int32).toInt := kd_add (or16 fi_6019.1 kor1) (or7 fi_6019.2 kor1)
      have hJ17 := kG_i hJ15 6019 rfl (v := ((i 6019) + 1)) ⟨(or17 fi_6019.1 s16 kor1), (or127 hp3.2 s16 kor1)⟩
      have s18 : (x5 + 1).toInt = x5.toInt + (1 : Int32).toInt := kd_add (or16 hp2.1 kor1) (or128 hp2.2 kor1)
      refine ft_go mi_k13 15 72 [(7, .int 11), (6, .int 0), (0, .ref 94), (1, .int x1), (2, .int 0), (3, .int 2), (4, .int x4), (5, .int x5)] [.int (x5 + 1), .int x4, .int 2, .int x1, .ref 94] (ku i 6019 ((i 6019) + 1)) a15 q r (by rfl) ?_
      have r19 : ((0 : Int) ≤ ((a15 95).getD x1.toNatClampNeg 0).toInt) ∧ (((a15 95).getD x1.toNatClampNeg 0).toInt ≤ 7) := hJ17.I.2.2.1 95 (x1.toNatClampNeg)
      have u20 : ((a15 95).getD x1.toNatClampNeg 0).toInt = ((a 95).getD x1.toNatClampNeg 0).toInt := congrArg (fun z : List Int32 => (z.getD x1.toNatClampNeg 0).toInt) (fa15 95 (by decide))
      refine ko_callI mi_k13.1 (pc := 72) (ls := [(7, .int 11), (6, .int 0), (0, .ref 94), (1, .int x1), (2, .int 0), (3, .int 2), (4, .int x4), (5, .int x5)]) (st := [.int (x5 + 1), .int x4, .int 2, .int x1, .ref 94]) (h := ks (ku i 6019 ((i 6019) + 1)) a15 q r) (i := (.invokevirtual 43, 3, 14, 0, 9, 0, 301)) (mi_k13.2 _ _ (by rfl)) (ft_invS mi_pq14 (by rfl)) (cy := mi_c14) mi_pq14 rfl (ke14_94_l12_K0 hJ17.I hJ17.R x1 x4 (x5 + 1) (or25 hp0.1 hp0.2) (or21 hp1 r19.1 u20) (or131 hp2.1 hp2.2 s18 kor1) (or134 fi_6019.1 hp3.2 s16 kor1)) (by decide) ?_
      intro vg21 ig21 ag21 qg21 rg21 kg21 hg21
      have hGg21 := kG_call hJ17 kg21 (by decide +kernel)
      obtain ⟨hg21, og21⟩ := hg21
      have fig21_6019 : ((0 : Int) ≤ (ig21 6019).toInt) ∧ ((ig21 6019).toInt ≤ 1000) := hGg21.I.1 6019
      have efig21_6019 : (ig21 6019).toInt = ((i 6019) + 1).toInt := kg21.ti 6019 rfl
      have z22 : (ig21 6019).toInt = (((i 6019) + 1).toInt + 0) := hg21
      have q23 : vg21 = av0_2_0 x1 x4 := og21.1
      have t24 : trS (a15 96) ((i 6019) + 1) (ag21 96) (ig21 6019) [] := og21.2
      exact ft_ret mi_k13 (by rfl) (hP vg21 _ _ _ _ hGg21 ⟨(or133 efig21_6019 s16 kor1), ⟨(show vg21 = av0_2_0 x1 x4 from congrArg (fun z0_ => z0_) q23), (tr_app (es := [11]) (show trS (a 96) (i 6019) (a15 96) ((i 6019) + 1) [11] from tr_st (or18 fi_6019.1) (or15 c14 kor24) (kset_o ea15 rfl) (or12 s16 kor1)) t24 (by rfl))⟩⟩)
  ·
    have c25 : (40 : Int32).toInt ≤ x5.toInt := kd_ltF c; clear c
    exact (or135 c25 hp2.2 kor40).elim
def yw14_94_l13_K0 : kW := ([6019], [96], [], [])
set_option maxRecDepth 100000 in
theorem ke14_94_l13_K0 {i : Nat → Int32} {a : Nat → List Int32} {q : Nat → List Int64} {r : Nat → Nat} (hI : kI i a q) (hr : kr r) (x1 : Int32) (x3 : Int32) (x4 : Int32) (hp0 : ((0 : Int) ≤ x1.toInt) ∧ (x1.toInt ≤ 49)) (hp1 : ((a 95).getD x1.toNatClampNeg 0).toInt = 0) (hp2 : ((0 : Int) ≤ x4.toInt) ∧ ((x4.toInt + 2) ≤ 39)) (hp3 : ((0 : Int) ≤ (i 6019).toInt) ∧ (((i 6019).toInt + 3) ≤ 900)) : km 9 14 [.ref 94, .int x1, .int 3, .int x3, .int x4] (ks i a q r) (kVI yw14_94_l13_K0 i a q r (fun v i1 a1 q1 r1 => ((i1 6019).toInt = ((i 6019).toInt + 3)) ∧ (v = av0_3_0 x1 x3 ∧ trS (a 96) (i 6019) (a1 96) (i1 6019) [10, 1, 11]))) := by
  have hG := kG_self yw14_94_l13_K0 hI hr
  refine km_ofI (q := (mi_h14, mi_c14)) rfl (by decide) (Nat.le_of_ble_eq_true rfl) ?_
  intro P hP
  have r1 : ((0 : Int) ≤ ((a 95).getD x1.toNatClampNeg 0).toInt) ∧ (((a 95).getD x1.toNatClampNeg 0).toInt ≤ 7) := hG.I.2.2.1 95 (x1.toNatClampNeg)
  have fi_6019 : ((0 : Int) ≤ (i 6019).toInt) ∧ ((i 6019).toInt ≤ 1000) := hG.I.1 6019
  refine ft_go mi_k14 3 5 [(0, .ref 94), (1, .int x1), (2, .int 3), (3, .int x3), (4, .int x4)] [.int x1, .ref 95] i a q r (by rfl) ?_
  refine ko_iald3 mi_k14.1 (n := 50) (c := 50) (ax := (0, 0, 0, 0, 0)) (mi_k14.2 _ _ (by rfl)) (by rfl) (ksG95 _ _ _ _) (hG.I.2.1 95) rfl (or14 hp0.1) (or20 hp0.2) ?_
  refine ko_eq (x1 := (6, [(0, .ref 94), (1, .int x1), (2, .int 3), (3, .int x3), (4, .int x4)], [.int 0], (0, 0), ks i a q r)) (by rw [(kj_eq (or129 hp1 r1.1) (by decide) : ((a 95).getD x1.toNatClampNeg 0) = 0)]) ?_
  refine ft_go mi_k14 9 66 [(5, .int 0), (0, .ref 94), (1, .int x1), (2, .int 3), (3, .int x3), (4, .int x4)] [.int x4, .int x3, .int 1, .int 0, .int x1, .ref 94] i a q r (by rfl) ?_
  refine ko_callI mi_k14.1 (pc := 66) (ls := [(5, .int 0), (0, .ref 94), (1, .int x1), (2, .int 3), (3, .int x3), (4, .int x4)]) (st := [.int x4, .int x3, .int 1, .int 0, .int x1, .ref 94]) (h := ks i a q r) (i := (.invokevirtual 35, 3, 13, 0, 9, 0, 297)) (mi_k14.2 _ _ (by rfl)) (ft_invS mi_pq13 (by rfl)) (cy := mi_c13) mi_pq13 rfl (ke13_94_l10_l21_K0 hG.I hG.R x1 x3 x4 (or25 hp0.1 hp0.2) (or129 hp1 r1.1) (or159 hp2.1 hp2.2) (or160 fi_6019.1 hp3.2)) (by decide) ?_
  intro vg2 ig2 ag2 qg2 rg2 kg2 hg2
  have hGg2 := kG_call hG kg2 (by decide +kernel)
  obtain ⟨hg2, og2⟩ := hg2
  have fig2_6019 : ((0 : Int) ≤ (ig2 6019).toInt) ∧ ((ig2 6019).toInt ≤ 1000) := hGg2.I.1 6019
  have z3 : (ig2 6019).toInt = ((i 6019).toInt + 2) := hg2
  have q4 : vg2 = av0_1_0 x1 x3 := og2.1
  have t5 : trS (a 96) (i 6019) (ag2 96) (ig2 6019) [10, 1] := og2.2
  refine ft_go mi_k14 8 81 [(6, .int vg2), (5, .int 0), (0, .ref 94), (1, .int x1), (2, .int 3), (3, .int x3), (4, .int x4)] [.int x4, .int 1, .int 2, .int 0, .int x1, .ref 94, .int vg2] ig2 ag2 qg2 rg2 (by rfl) ?_
  have r6 : ((0 : Int) ≤ ((ag2 95).getD x1.toNatClampNeg 0).toInt) ∧ (((ag2 95).getD x1.toNatClampNeg 0).toInt ≤ 7) := hGg2.I.2.2.1 95 (x1.toNatClampNeg)
  have u7 : ((ag2 95).getD x1.toNatClampNeg 0).toInt = ((a 95).getD x1.toNatClampNeg 0).toInt := congrArg (fun z : List Int32 => (z.getD x1.toNatClampNeg 0).toInt) (kg2.fa 95 rfl)
  refine ko_callI mi_k14.1 (pc := 81) (ls := [(6, .int vg2), (5, .int 0), (0, .ref 94), (1, .int x1), (2, .int 3), (3, .int x3), (4, .int x4)]) (st := [.int x4, .int 1, .int 2, .int 0, .int x1, .ref 94, .int vg2]) (h := ks ig2 ag2 qg2 rg2) (i := (.invokevirtual 35, 3, 13, 0, 9, 0, 297)) (mi_k14.2 _ _ (by rfl)) (ft_invS mi_pq13 (by rfl)) (cy := mi_c13) mi_pq13 rfl (ke13_94_l10_l22_K0 hGg2.I hGg2.R x1 1 x4 (or25 hp0.1 hp0.2) (or21 hp1 r6.1 u7) (or161 hp2.1 hp2.2) (or162 fig2_6019.1 hp3.2 z3)) (by decide) ?_
  intro vg8 ig8 ag8 qg8 rg8 kg8 hg8
  have hGg8 := kG_call hGg2 kg8 (by decide +kernel)
  obtain ⟨hg8, og8⟩ := hg8
  have fig8_6019 : ((0 : Int) ≤ (ig8 6019).toInt) ∧ ((ig8 6019).toInt ≤ 1000) := hGg8.I.1 6019
  have z9 : (ig8 6019).toInt = ((ig2 6019).toInt + 1) := hg8
  have q10 : vg8 = av0_2_0 x1 (1 : Int32) := og8.1
  have t11 : trS (ag2 96) (ig2 6019) (ag8 96) (ig8 6019) [11] := og8.2
  have b12 : ((-2147483648 : Int) ≤ vg2.toInt) ∧ (vg2.toInt ≤ 2147483647) := kd_bd vg2
  have b13 : ((-2147483648 : Int) ≤ vg8.toInt) ∧ (vg8.toInt ≤ 2147483647) := kd_bd vg8
  refine ft_go mi_k14 1 85 [(6, .int vg2), (5, .int 0), (0, .ref 94), (1, .int x1), (2, .int 3), (3, .int x3), (4, .int x4)] [.int (vg2 - vg8)] ig8 ag8 qg8 rg8 (by rfl) ?_
  exact ft_ret mi_k14 (by rfl) (hP (vg2 - vg8) _ _ _ _ hGg8 ⟨(or163 z3 z9), ⟨(show (vg2 - vg8) = av0_3_0 x1 x3 from by rw [q4, q10]; rfl), (tr_app (es := [10, 1, 11]) t5 t11 (by rfl))⟩⟩)
def yw13_94_l10_l23_K0 : kW := ([6019], [96], [], [])
