def yw158_116 : kW := ([7437, 7438, 7439, 7440], [124, 125, 126, 127], [], [])
set_option maxRecDepth 100000 in
set_option maxHeartbeats 4000000 in
theorem ke158_116 {i : Nat → Int32} {a : Nat → List Int32} {q : Nat → List Int64} {r : Nat → Nat} (hI : kI i a q) (hr : kr r) (hp0 : ((i 7438).toInt = 0) ∧ ((i 7439).toInt ≤ (i 7437).toInt) ∧ ((i 7437).toInt ≤ (i 7429).toInt)) (hp1 : (2 * (i 7440).toInt) ≤ (i 7437).toInt) (t : List Int32) (nn : Int32) (hT : a 119 = t) (hN : i 7429 = nn) (hX : kBy t) : km 53 158 [.ref 116] (ks i a q r) (kVI yw158_116 i a q r (fun v i1 a1 q1 r1 => (((i1 7437).toInt ≤ (i1 7429).toInt) ∧ ((i 7437).toInt ≤ (i1 7437).toInt) ∧ ((0 : Int) ≤ v.toInt) ∧ (v.toInt ≤ 1) ∧ (((v.toInt = 1) → (((i1 7438).toInt = 0) ∧ ((i1 7439).toInt ≤ (i1 7437).toInt) ∧ ((i1 7437).toInt ≤ (i1 7429).toInt) ∧ ((2 * (i1 7440).toInt) ≤ ((i1 7437).toInt + 1)) ∧ ((i1 7440).toInt = ((i 7440).toInt + 1)))))) ∧ (v, ((i1 7437, i1 7439, a1 127), i1 7440, a1 124, a1 125, a1 126)) = rLin t nn ((i 7437, i 7439, a 127), i 7440, a 124, a 125, a 126))) := by
  have hG := kG_self yw158_116 hI hr
  refine km_ofI (q := (mi_h158, mi_c158)) rfl (by decide) (Nat.le_of_ble_eq_true rfl) ?_
  intro P hP
  have fi_7439 : ((0 : Int) ≤ (i 7439).toInt) ∧ ((i 7439).toInt ≤ 200) := hG.I.1 7439
  have fi_7437 : ((0 : Int) ≤ (i 7437).toInt) ∧ ((i 7437).toInt ≤ 120) := hG.I.1 7437
  have fi_7429 : ((0 : Int) ≤ (i 7429).toInt) ∧ ((i 7429).toInt ≤ 120) := hG.I.1 7429
  have fi_7440 : ((0 : Int) ≤ (i 7440).toInt) ∧ ((i 7440).toInt ≤ 61) := hG.I.1 7440
  have hn1 : (i 7429).toInt = nn.toInt := congrArg Int32.toInt hN
  refine ft_go mi_k158 6 12 [(0, .ref 116)] [.int (i 7439), .int (i 7440), .ref 124] i a q r (by rfl) ?_
  refine ko_iast3 mi_k158.1 (n := 61) (c := 61) (ax := (0, 0, 0, 0, 0)) (mi_k158.2 _ _ (by rfl)) (by rfl) (ksG124 _ _ _ _) (ksA124 _ _ _ _) (hG.I.2.1 124) rfl (oq2 fi_7440.1) (oq372 fi_7437.2 hp1) ?_
  intro a2 ea2 fa2
  have hJ2 := kG_a3 hG 124 rfl ea2 fa2 (kd_bd _)
  refine ft_go mi_k158 1 14 [(0, .ref 116)] [.ref 116] i a2 q r (by rfl) ?_
  have nn0 := koq0
  have nn1 := koq1
  have nn5 := koq5
  refine ko_callI mi_k158.1 (pc := 14) (ls := [(0, .ref 116)]) (st := [.ref 116]) (h := ks i a2 q r) (i := (.invokevirtual 193, 3, 157, 0, 9, 0, 397)) (mi_k158.2 _ _ (by rfl)) (ft_invS mi_pq157 (by rfl)) (cy := mi_c157) mi_pq157 rfl ((kMallQ 6).1 _ _ _ _ hJ2.I hJ2.R (by omega) (oq222 hp0.2.1) (oq222 hp0.2.2) t nn ((fa2 119 (by decide)).trans hT) hN hX) (by decide) ?_
  intro vg3 ig3 ag3 qg3 rg3 kg3 hg3
  have hGg3 := kG_call hJ2 kg3 (by decide +kernel)
  obtain ⟨hg3, og3⟩ := hg3
  have fig3_7437 : ((0 : Int) ≤ (ig3 7437).toInt) ∧ ((ig3 7437).toInt ≤ 120) := hGg3.I.1 7437
  have fig3_7429 : ((0 : Int) ≤ (ig3 7429).toInt) ∧ ((ig3 7429).toInt ≤ 120) := hGg3.I.1 7429
  have efig3_7429 : (ig3 7429).toInt = (i 7429).toInt := kg3.ti 7429 rfl
  have fig3_7439 : ((0 : Int) ≤ (ig3 7439).toInt) ∧ ((ig3 7439).toInt ≤ 200) := hGg3.I.1 7439
  have z4 : ((ig3 7438).toInt = (i 7438).toInt) ∧ ((i 7437).toInt ≤ (ig3 7437).toInt) ∧ ((ig3 7437).toInt ≤ (ig3 7429).toInt) ∧ (((ig3 7439).toInt - (ig3 7437).toInt) ≤ ((i 7439).toInt - (i 7437).toInt)) ∧ ((i 7439).toInt ≤ (ig3 7439).toInt) ∧ ((0 : Int) ≤ vg3.toInt) ∧ (vg3.toInt ≤ 1) ∧ (((vg3.toInt = 1) → (((i 7437).toInt + 1) ≤ (ig3 7437).toInt))) := hg3
  refine ft_if mi_k158 (vg3 != 0) 22 20 [(0, .ref 116)] [] (by rfl) (fun c => ?_) (fun c => ?_)
  ·
    have c5 : vg3.toInt ≠ (0 : Int32).toInt := kd_ne c; clear c
    have fig3_7440 : ((0 : Int) ≤ (ig3 7440).toInt) ∧ ((ig3 7440).toInt ≤ 61) := hGg3.I.1 7440
    have efig3_7440 : (ig3 7440).toInt = (i 7440).toInt := kg3.ti 7440 rfl
    refine ft_go mi_k158 8 38 [(0, .ref 116)] [.int (ig3 7440), .ref 124, .int (ig3 7440), .ref 125] ig3 ag3 qg3 rg3 (by rfl) ?_
    refine ko_iald3 mi_k158.1 (n := 61) (c := 61) (ax := (0, 0, 0, 0, 0)) (mi_k158.2 _ _ (by rfl)) (by rfl) (ksG124 _ _ _ _) (hGg3.I.2.1 124) rfl (oq2 fig3_7440.1) (oq373 efig3_7440 fi_7437.2 hp1) ?_
    refine ko_iast3 mi_k158.1 (n := 61) (c := 61) (ax := (0, 0, 0, 0, 0)) (mi_k158.2 _ _ (by rfl)) (by rfl) (ksG125 _ _ _ _) (ksA125 _ _ _ _) (hGg3.I.2.1 125) rfl (oq2 fig3_7440.1) (oq373 efig3_7440 fi_7437.2 hp1) ?_
    intro a6 ea6 fa6
    have hJ6 := kG_a3 hGg3 125 rfl ea6 fa6 (kd_bd _)
    refine ft_go mi_k158 2 43 [(0, .ref 116)] [.int 63, .ref 116] ig3 a6 qg3 rg3 (by rfl) ?_
    refine ko_callI mi_k158.1 (pc := 43) (ls := [(0, .ref 116)]) (st := [.int 63, .ref 116]) (h := ks ig3 a6 qg3 rg3) (i := (.invokevirtual 187, 3, 148, 0, 9, 0, 407)) (mi_k158.2 _ _ (by rfl)) (ft_invS mi_pq148 (by rfl)) (cy := mi_c148) mi_pq148 rfl (ke148_116 hJ6.I hJ6.R 63 (oq374 koq63) t nn ((((fa6 119 (by decide)).trans (kg3.fa 119 rfl)).trans (fa2 119 (by decide))).trans hT) ((kg3.fi 7429 rfl).trans hN) hX) (by decide) ?_
    intro vg7 ig7 ag7 qg7 rg7 kg7 hg7
    have hGg7 := kG_call hJ6 kg7 (by decide +kernel)
    obtain ⟨hg7, og7⟩ := hg7
    have fig7_7437 : ((0 : Int) ≤ (ig7 7437).toInt) ∧ ((ig7 7437).toInt ≤ 120) := hGg7.I.1 7437
    have z8 : (((vg7.toInt = 1) ∧ ((ig7 7437).toInt = ((ig3 7437).toInt + 1)) ∧ ((ig3 7437).toInt < (ig3 7429).toInt) ∧ ((cHr t nn (ig3 7437) 0).toInt = (63 : Int32).toInt)) ∨ ((vg7.toInt = 0) ∧ ((ig7 7437).toInt = (ig3 7437).toInt))) ∧ (((vg7.toInt = 0) → ((cHr t nn (ig3 7437) 0).toInt ≠ (63 : Int32).toInt))) := hg7
    have q9 : ((ig7 7437).toInt = (ig3 7437).toInt → (cHr t nn (ig7 7437) 0).toInt = (cHr t nn (ig3 7437) 0).toInt) := fun h => congrArg Int32.toInt (kHr_c (t := t) (n := nn) (kj_v h) rfl)
    refine ft_if mi_k158 (vg7 == 0) 71 49 [(0, .ref 116)] [] (by rfl) (fun c => ?_) (fun c => ?_)
    ·
      have c10 : vg7.toInt = (0 : Int32).toInt := kd_eq c; clear c
      have fig7_7440 : ((0 : Int) ≤ (ig7 7440).toInt) ∧ ((ig7 7440).toInt ≤ 61) := hGg7.I.1 7440
      have efig7_7440 : (ig7 7440).toInt = (ig3 7440).toInt := kg7.ti 7440 rfl
      have s11 : ((ig7 7440) + 1).toInt = (ig7 7440).toInt + (1 : Int32).toInt := kd_add (oq115 fig7_7440.1 koq1) (oq375 fig7_7440.2 koq1)
      have hJ12 := kG_i hGg7 7440 rfl (v := ((ig7 7440) + 1)) ⟨(oq117 fig7_7440.1 s11 koq1), (oq376 efig3_7440 efig7_7440 fi_7437.2 hp1 s11 koq1)⟩
      have efig7_7439 : (ig7 7439).toInt = (ig3 7439).toInt := kg7.ti 7439 rfl
      refine ft_go mi_k158 11 90 [(0, .ref 116)] [.int (ig7 7439), .int (ig7 7440), .ref 126] (ku ig7 7440 ((ig7 7440) + 1)) ag7 qg7 rg7 (by rfl) ?_
      refine ko_iast3 mi_k158.1 (n := 61) (c := 61) (ax := (0, 0, 0, 0, 0)) (mi_k158.2 _ _ (by rfl)) (by rfl) (ksG126 _ _ _ _) (ksA126 _ _ _ _) (hJ12.I.2.1 126) rfl (oq2 fig7_7440.1) (oq377 efig3_7440 efig7_7440 fi_7437.2 hp1) ?_
      intro a13 ea13 fa13
      have hJ13 := kG_a3 hJ12 126 rfl ea13 fa13 (kd_bd _)
      refine ft_go mi_k158 1 92 [(0, .ref 116)] [.int 1] (ku ig7 7440 ((ig7 7440) + 1)) a13 qg7 rg7 (by rfl) ?_
      have efig7_7429 : (ig7 7429).toInt = (ig3 7429).toInt := kg7.ti 7429 rfl
      have efig7_7438 : (ig7 7438).toInt = (ig3 7438).toInt := kg7.ti 7438 rfl
      have to14 : (vg3, (ig3 7437, ig3 7439, ag3 127)) = rE t nn 6 (i 7437, i 7439, a 127) := og3.trans (congrArg (rE t nn 6) (kT3 rfl rfl (fa2 127 (by decide))))
      have tk7 : (vg7, (ig7 7437, ig7 7439, a13 127)) = rTk t nn 63 (ig3 7437, ig3 7439, ag3 127) := tTkR og7 (kT2 (kg7.fi 7439 rfl) ((fa13 127 (by decide)).trans ((kg7.fa 127 rfl).trans (fa6 127 (by decide)))))
      have tl15 : ((1 : Int32), ((ig7 7437, ig7 7439, a13 127), ((ig7 7440) + 1), a13 124, a13 125, a13 126)) = rLin t nn ((i 7437, i 7439, a 127), i 7440, a 124, a 125, a 126) := (rLi_one to14 (oq151 c5 z4.2.2.2.2.2.1 koq0) tk7 (oq145 c10 koq0) (show a13 124 = (a 124).set (i 7440).toNatClampNeg (i 7439) from by first | rfl | (simp only [fa13 124 (by decide), kg7.fa 124 rfl, fa6 124 (by decide), kg3.fa 124 rfl, ea2]; done) | (simp only [fa13 124 (by decide), kg7.fa 124 rfl, fa6 124 (by decide), kg3.fa 124 rfl, ea2]; rfl)) (show a13 125 = (a 125).set (i 7440).toNatClampNeg (((a 124).set (i 7440).toNatClampNeg (i 7439)).getD (i 7440).toNatClampNeg 0) from by first | rfl | (simp only [fa13 125 (by decide), kg7.fa 125 rfl, ea6, kg3.fa 125 rfl, (show ig3 7440 = i 7440 from kg3.fi 7440 rfl), kg3.fa 124 rfl, ea2, fa2 125 (by decide)]; done) | (simp only [fa13 125 (by decide), kg7.fa 125 rfl, ea6, kg3.fa 125 rfl, (show ig3 7440 = i 7440 from kg3.fi 7440 rfl), kg3.fa 124 rfl, ea2, fa2 125 (by decide)]; rfl)) (show a13 126 = (a 126).set (i 7440).toNatClampNeg (ig7 7439) from by first | rfl | (simp only [ea13, (show ig7 7439 = ig3 7439 from kg7.fi 7439 rfl), kg7.fa 126 rfl, (show ig7 7440 = ig3 7440 from kg7.fi 7440 rfl), (show ig3 7440 = i 7440 from kg3.fi 7440 rfl), fa6 126 (by decide), kg3.fa 126 rfl, fa2 126 (by decide)]; done) | (simp only [ea13, (show ig7 7439 = ig3 7439 from kg7.fi 7439 rfl), kg7.fa 126 rfl, (show ig7 7440 = ig3 7440 from kg7.fi 7440 rfl), (show ig3 7440 = i 7440 from kg3.fi 7440 rfl), fa6 126 (by decide), kg3.fa 126 rfl, fa2 126 (by decide)]; rfl)) (show ((ig7 7440) + 1) = i 7440 + 1 from by first | rfl | (simp only [(show ig7 7440 = ig3 7440 from kg7.fi 7440 rfl), (show ig3 7440 = i 7440 from kg3.fi 7440 rfl)]; done) | (simp only [(show ig7 7440 = ig3 7440 from kg7.fi 7440 rfl), (show ig3 7440 = i 7440 from kg3.fi 7440 rfl)]; rfl)) rfl)
      exact ft_ret mi_k158 (by rfl) (hP 1 _ _ _ _ hJ13 ⟨(oq378 c10 c5 efig3_7440 efig7_7429 efig7_7438 efig7_7439 efig7_7440 hp0.1 hp0.2.1 hp1 s11 z4.1 z4.2.1 z4.2.2.1 z4.2.2.2.1 z4.2.2.2.2.2.1 z4.2.2.2.2.2.2.1 z4.2.2.2.2.2.2.2 z8.1 koq0 koq1 koq63), tl15⟩)
    ·
      have c16 : vg7.toInt ≠ (0 : Int32).toInt := kd_eqF c; clear c
      have fig7_7440 : ((0 : Int) ≤ (ig7 7440).toInt) ∧ ((ig7 7440).toInt ≤ 61) := hGg7.I.1 7440
      have efig7_7440 : (ig7 7440).toInt = (ig3 7440).toInt := kg7.ti 7440 rfl
      have fig7_7439 : ((0 : Int) ≤ (ig7 7439).toInt) ∧ ((ig7 7439).toInt ≤ 200) := hGg7.I.1 7439
      have efig7_7439 : (ig7 7439).toInt = (ig3 7439).toInt := kg7.ti 7439 rfl
      refine ft_go mi_k158 6 61 [(0, .ref 116)] [.int (ig7 7439), .int (ig7 7440), .ref 125] ig7 ag7 qg7 rg7 (by rfl) ?_
      refine ko_iast3 mi_k158.1 (n := 61) (c := 61) (ax := (0, 0, 0, 0, 0)) (mi_k158.2 _ _ (by rfl)) (by rfl) (ksG125 _ _ _ _) (ksA125 _ _ _ _) (hGg7.I.2.1 125) rfl (oq2 fig7_7440.1) (oq377 efig3_7440 efig7_7440 fi_7437.2 hp1) ?_
      intro a17 ea17 fa17
      have hJ17 := kG_a3 hGg7 125 rfl ea17 fa17 (kd_bd _)
      refine ft_go mi_k158 1 63 [(0, .ref 116)] [.ref 116] ig7 a17 qg7 rg7 (by rfl) ?_
      have nn0 := koq0
      have nn1 := koq1
      have nn5 := koq5
      have efig7_7438 : (ig7 7438).toInt = (ig3 7438).toInt := kg7.ti 7438 rfl
      have fig7_7429 : ((0 : Int) ≤ (ig7 7429).toInt) ∧ ((ig7 7429).toInt ≤ 120) := hJ17.I.1 7429
      have efig7_7429 : (ig7 7429).toInt = (ig3 7429).toInt := kg7.ti 7429 rfl
      refine ko_callI mi_k158.1 (pc := 63) (ls := [(0, .ref 116)]) (st := [.ref 116]) (h := ks ig7 a17 qg7 rg7) (i := (.invokevirtual 193, 3, 157, 0, 9, 0, 397)) (mi_k158.2 _ _ (by rfl)) (ft_invS mi_pq157 (by rfl)) (cy := mi_c157) mi_pq157 rfl ((kMallQ 6).1 _ _ _ _ hJ17.I hJ17.R (by have := koq0; have := koq63; omega) (oq379 efig7_7439 hp0.2.1 z4.2.2.2.1 z8.1 koq63) (oq380 efig7_7429 z4.2.2.1 z8.1 koq63) t nn ((((((fa17 119 (by decide)).trans (kg7.fa 119 rfl)).trans (fa6 119 (by decide))).trans (kg3.fa 119 rfl)).trans (fa2 119 (by decide))).trans hT) (((kg7.fi 7429 rfl).trans (kg3.fi 7429 rfl)).trans hN) hX) (by decide) ?_
      intro vg18 ig18 ag18 qg18 rg18 kg18 hg18
      have hGg18 := kG_call hJ17 kg18 (by decide +kernel)
      obtain ⟨hg18, og18⟩ := hg18
      have z19 : ((ig18 7438).toInt = (ig7 7438).toInt) ∧ ((ig7 7437).toInt ≤ (ig18 7437).toInt) ∧ ((ig18 7437).toInt ≤ (ig18 7429).toInt) ∧ (((ig18 7439).toInt - (ig18 7437).toInt) ≤ ((ig7 7439).toInt - (ig7 7437).toInt)) ∧ ((ig7 7439).toInt ≤ (ig18 7439).toInt) ∧ ((0 : Int) ≤ vg18.toInt) ∧ (vg18.toInt ≤ 1) ∧ (((vg18.toInt = 1) → (((ig7 7437).toInt + 1) ≤ (ig18 7437).toInt))) := hg18
      refine ft_if mi_k158 (vg18 != 0) 71 69 [(0, .ref 116)] [] (by rfl) (fun c => ?_) (fun c => ?_)
      ·
        have c20 : vg18.toInt ≠ (0 : Int32).toInt := kd_ne c; clear c
        have fig18_7440 : ((0 : Int) ≤ (ig18 7440).toInt) ∧ ((ig18 7440).toInt ≤ 61) := hGg18.I.1 7440
        have efig18_7440 : (ig18 7440).toInt = (ig7 7440).toInt := kg18.ti 7440 rfl
        have s21 : ((ig18 7440) + 1).toInt = (ig18 7440).toInt + (1 : Int32).toInt := kd_add (oq115 fig18_7440.1 koq1) (oq375 fig18_7440.2 koq1)
        have hJ22 := kG_i hGg18 7440 rfl (v := ((ig18 7440) + 1)) ⟨(oq117 fig18_7440.1 s21 koq1), (oq381 efig18_7440 efig3_7440 efig7_7440 fi_7437.2 hp1 s21 koq1)⟩
        refine ft_go mi_k158 11 90 [(0, .ref 116)] [.int (ig18 7439), .int (ig18 7440), .ref 126] (ku ig18 7440 ((ig18 7440) + 1)) ag18 qg18 rg18 (by rfl) ?_
        refine ko_iast3 mi_k158.1 (n := 61) (c := 61) (ax := (0, 0, 0, 0, 0)) (mi_k158.2 _ _ (by rfl)) (by rfl) (ksG126 _ _ _ _) (ksA126 _ _ _ _) (hJ22.I.2.1 126) rfl (oq2 fig18_7440.1) (oq382 efig18_7440 efig3_7440 efig7_7440 fi_7437.2 hp1) ?_
        intro a23 ea23 fa23
        have hJ23 := kG_a3 hJ22 126 rfl ea23 fa23 (kd_bd _)
        refine ft_go mi_k158 1 92 [(0, .ref 116)] [.int 1] (ku ig18 7440 ((ig18 7440) + 1)) a23 qg18 rg18 (by rfl) ?_
        have to24 : (vg3, (ig3 7437, ig3 7439, ag3 127)) = rE t nn 6 (i 7437, i 7439, a 127) := og3.trans (congrArg (rE t nn 6) (kT3 rfl rfl (fa2 127 (by decide))))
        have tk7 : (vg7, (ig7 7437, ig7 7439, ag7 127)) = rTk t nn 63 (ig3 7437, ig3 7439, ag3 127) := tTkR og7 (kT2 (kg7.fi 7439 rfl) ((kg7.fa 127 rfl).trans (fa6 127 (by decide))))
        have tl25 : ((1 : Int32), ((ig18 7437, ig18 7439, a23 127), ((ig18 7440) + 1), a23 124, a23 125, a23 126)) = rLin t nn ((i 7437, i 7439, a 127), i 7440, a 124, a 125, a 126) := (rLi_two1 to24 (oq151 c5 z4.2.2.2.2.2.1 koq0) tk7 (oq384 c16 z8.1 koq0 koq63) ((congrArg (fun z : List Int32 => (vg18, ig18 7437, ig18 7439, z)) (fa23 127 (by decide))).trans (og18.trans (congrArg (rE t nn 6) (kT3 rfl rfl (fa17 127 (by decide)))))) (show a23 124 = (a 124).set (i 7440).toNatClampNeg (i 7439) from by first | rfl | (simp only [fa23 124 (by decide), kg18.fa 124 rfl, fa17 124 (by decide), kg7.fa 124 rfl, fa6 124 (by decide), kg3.fa 124 rfl, ea2]; done) | (simp only [fa23 124 (by decide), kg18.fa 124 rfl, fa17 124 (by decide), kg7.fa 124 rfl, fa6 124 (by decide), kg3.fa 124 rfl, ea2]; rfl)) (show a23 125 = ((a 125).set (i 7440).toNatClampNeg (((a 124).set (i 7440).toNatClampNeg (i 7439)).getD (i 7440).toNatClampNeg 0)).set (i 7440).toNatClampNeg (ig7 7439) from by first | rfl | (simp only [fa23 125 (by decide), (show ig7 7439 = ig3 7439 from kg7.fi 7439 rfl), kg18.fa 125 rfl, ea17, kg7.fa 125 rfl, (show ig7 7440 = ig3 7440 from kg7.fi 7440 rfl), (show ig3 7440 = i 7440 from kg3.fi 7440 rfl), ea6, kg3.fa 125 rfl, kg3.fa 124 rfl, ea2, fa2 125 (by decide)]; done) | (simp only [fa23 125 (by decide), (show ig7 7439 = ig3 7439 from kg7.fi 7439 rfl), kg18.fa 125 rfl, ea17, kg7.fa 125 rfl, (show ig7 7440 = ig3 7440 from kg7.fi 7440 rfl), (show ig3 7440 = i 7440 from kg3.fi 7440 rfl), ea6, kg3.fa 125 rfl, kg3.fa 124 rfl, ea2, fa2 125 (by decide)]; rfl)) (oq151 c20 z19.2.2.2.2.2.1 koq0) (show a23 126 = (a 126).set (i 7440).toNatClampNeg (ig18 7439) from by first | rfl | (simp only [ea23, kg18.fa 126 rfl, (show ig18 7440 = ig7 7440 from kg18.fi 7440 rfl), (show ig7 7440 = ig3 7440 from kg7.fi 7440 rfl), (show ig3 7440 = i 7440 from kg3.fi 7440 rfl), fa17 126 (by decide), kg7.fa 126 rfl, fa6 126 (by decide), kg3.fa 126 rfl, fa2 126 (by decide)]; done) | (simp only [ea23, kg18.fa 126 rfl, (show ig18 7440 = ig7 7440 from kg18.fi 7440 rfl), (show ig7 7440 = ig3 7440 from kg7.fi 7440 rfl), (show ig3 7440 = i 7440 from kg3.fi 7440 rfl), fa17 126 (by decide), kg7.fa 126 rfl, fa6 126 (by decide), kg3.fa 126 rfl, fa2 126 (by decide)]; rfl)) (show ((ig18 7440) + 1) = i 7440 + 1 from by first | rfl | (simp only [(show ig18 7440 = ig7 7440 from kg18.fi 7440 rfl), (show ig7 7440 = ig3 7440 from kg7.fi 7440 rfl), (show ig3 7440 = i 7440 from kg3.fi 7440 rfl)]; done) | (simp only [(show ig18 7440 = ig7 7440 from kg18.fi 7440 rfl), (show ig7 7440 = ig3 7440 from kg7.fi 7440 rfl), (show ig3 7440 = i 7440 from kg3.fi 7440 rfl)]; rfl)) rfl)
        exact ft_ret mi_k158 (by rfl) (hP 1 _ _ _ _ hJ23 ⟨(oq383 c16 efig18_7440 efig3_7440 efig7_7438 efig7_7439 efig7_7440 hp0.1 hp0.2.1 hp1 s21 z19.1 z19.2.1 z19.2.2.1 z19.2.2.2.1 z4.1 z4.2.1 z4.2.2.2.1 z8.1 koq0 koq1 koq63), tl25⟩)
      ·
        have c26 : vg18.toInt = (0 : Int32).toInt := kd_neF c; clear c
        refine ft_go mi_k158 1 70 [(0, .ref 116)] [.int 0] ig18 ag18 qg18 rg18 (by rfl) ?_
        have to27 : (vg3, (ig3 7437, ig3 7439, ag3 127)) = rE t nn 6 (i 7437, i 7439, a 127) := og3.trans (congrArg (rE t nn 6) (kT3 rfl rfl (fa2 127 (by decide))))
        have tk7 : (vg7, (ig7 7437, ig7 7439, ag7 127)) = rTk t nn 63 (ig3 7437, ig3 7439, ag3 127) := tTkR og7 (kT2 (kg7.fi 7439 rfl) ((kg7.fa 127 rfl).trans (fa6 127 (by decide))))
        have tl28 : ((0 : Int32), ((ig18 7437, ig18 7439, ag18 127), ig18 7440, ag18 124, ag18 125, ag18 126)) = rLin t nn ((i 7437, i 7439, a 127), i 7440, a 124, a 125, a 126) := (rLi_two0 to27 (oq151 c5 z4.2.2.2.2.2.1 koq0) tk7 (oq384 c16 z8.1 koq0 koq63) (og18.trans (congrArg (rE t nn 6) (kT3 rfl rfl (fa17 127 (by decide))))) (show ag18 124 = (a 124).set (i 7440).toNatClampNeg (i 7439) from by first | rfl | (simp only [kg18.fa 124 rfl, fa17 124 (by decide), kg7.fa 124 rfl, fa6 124 (by decide), kg3.fa 124 rfl, ea2]; done) | (simp only [kg18.fa 124 rfl, fa17 124 (by decide), kg7.fa 124 rfl, fa6 124 (by decide), kg3.fa 124 rfl, ea2]; rfl)) (show ag18 125 = ((a 125).set (i 7440).toNatClampNeg (((a 124).set (i 7440).toNatClampNeg (i 7439)).getD (i 7440).toNatClampNeg 0)).set (i 7440).toNatClampNeg (ig7 7439) from by first | rfl | (simp only [kg18.fa 125 rfl, (show ig7 7439 = ig3 7439 from kg7.fi 7439 rfl), ea17, kg7.fa 125 rfl, (show ig7 7440 = ig3 7440 from kg7.fi 7440 rfl), (show ig3 7440 = i 7440 from kg3.fi 7440 rfl), ea6, kg3.fa 125 rfl, kg3.fa 124 rfl, ea2, fa2 125 (by decide)]; done) | (simp only [kg18.fa 125 rfl, (show ig7 7439 = ig3 7439 from kg7.fi 7439 rfl), ea17, kg7.fa 125 rfl, (show ig7 7440 = ig3 7440 from kg7.fi 7440 rfl), (show ig3 7440 = i 7440 from kg3.fi 7440 rfl), ea6, kg3.fa 125 rfl, kg3.fa 124 rfl, ea2, fa2 125 (by decide)]; rfl)) (oq143 c26 z19.2.2.2.2.2.1 koq0) ((kg18.fi 7440 rfl).trans ((kg7.fi 7440 rfl).trans (kg3.fi 7440 rfl))) ((((((kg18.fa 126 rfl).trans (fa17 126 (by decide))).trans (kg7.fa 126 rfl)).trans (fa6 126 (by decide))).trans (kg3.fa 126 rfl)).trans (fa2 126 (by decide))) rfl)
        exact ft_ret mi_k158 (by rfl) (hP 0 _ _ _ _ hGg18 ⟨(oq385 z19.2.1 z19.2.2.1 z4.2.1 z8.1 koq63 koq0), tl28⟩)
  ·
    have c29 : vg3.toInt = (0 : Int32).toInt := kd_neF c; clear c
    refine ft_go mi_k158 1 21 [(0, .ref 116)] [.int 0] ig3 ag3 qg3 rg3 (by rfl) ?_
    have to30 : (vg3, (ig3 7437, ig3 7439, ag3 127)) = rE t nn 6 (i 7437, i 7439, a 127) := og3.trans (congrArg (rE t nn 6) (kT3 rfl rfl (fa2 127 (by decide))))
    have tl31 : ((0 : Int32), ((ig3 7437, ig3 7439, ag3 127), ig3 7440, ag3 124, ag3 125, ag3 126)) = rLin t nn ((i 7437, i 7439, a 127), i 7440, a 124, a 125, a 126) := (rLi_no to30 (oq143 c29 z4.2.2.2.2.2.1 koq0) rfl (kg3.fi 7440 rfl) (show ag3 124 = (a 124).set (i 7440).toNatClampNeg (i 7439) from by first | rfl | (simp only [kg3.fa 124 rfl, ea2]; done) | (simp only [kg3.fa 124 rfl, ea2]; rfl)) ((kg3.fa 125 rfl).trans (fa2 125 (by decide))) ((kg3.fa 126 rfl).trans (fa2 126 (by decide))))
    exact ft_ret mi_k158 (by rfl) (hP 0 _ _ _ _ hGg3 ⟨(oq386 z4.2.1 z4.2.2.1 koq0), tl31⟩)
