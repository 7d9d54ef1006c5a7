section
def yw158_116 : kW := ([7437, 7438, 7439, 7440], [124, 125, 126, 127], [], [])
set_option maxRecDepth 100000 in
set_option maxHeartbeats 4000000 in
theorem ke158_116 {i : Nat → Int32} {a : Nat → List Int32} {q : Nat → List Int64} {r : Nat → Nat} (hI : kI i a q) (hr : kr r) (hp0 : ((i 7438).toInt = 0) ∧ ((i 7439).toInt ≤ (i 7437).toInt) ∧ ((i 7437).toInt ≤ (i 7429).toInt)) (hp1 : (2 * (i 7440).toInt) ≤ (i 7437).toInt) (t : List Int32) (nn : Int32) (hT : a 119 = t) (hN : i 7429 = nn) (hX : kBy t) : km 53 158 [.ref 116] (ks i a q r) (kVI yw158_116 i a q r (fun v i1 a1 q1 r1 => (((i1 7437).toInt ≤ (i1 7429).toInt) ∧ ((i 7437).toInt ≤ (i1 7437).toInt) ∧ ((0 : Int) ≤ v.toInt) ∧ (v.toInt ≤ 1) ∧ (((v.toInt = 1) → (((i1 7438).toInt = 0) ∧ ((i1 7439).toInt ≤ (i1 7437).toInt) ∧ ((i1 7437).toInt ≤ (i1 7429).toInt) ∧ ((2 * (i1 7440).toInt) ≤ ((i1 7437).toInt + 1)) ∧ ((i1 7440).toInt = ((i 7440).toInt + 1)))))) ∧ (v, ((i1 7437, i1 7439, a1 127), i1 7440, a1 124, a1 125, a1 126)) = rLin t nn ((i 7437, i 7439, a 127), i 7440, a 124, a 125, a 126))) := by
  have hG := kG_self yw158_116 hI hr
  refine km_ofI (q := (mi_h158, mi_c158)) rfl (by decide) (Nat.le_of_ble_eq_true rfl) ?_
  intro P hP
  have fi_7439 : ((0 : Int) ≤ (i 7439).toInt) ∧ ((i 7439).toInt ≤ 200) := hG.I.1 7439
  have fi_7437 : ((0 : Int) ≤ (i 7437).toInt) ∧ ((i 7437).toInt ≤ 120) := hG.I.1 7437
  have fi_7429 : ((0 : Int) ≤ (i 7429).toInt) ∧ ((i 7429).toInt ≤ 120) := hG.I.1 7429
  have fi_7440 : ((0 : Int) ≤ (i 7440).toInt) ∧ ((i 7440).toInt ≤ 61) := hG.I.1 7440
  have hn1 : (i 7429).toInt = nn.toInt := congrArg Int32.toInt hN
  first | refine fo_goL mi_k158 fz158_0_6_12 [(0, .ref 116)] [.int (i 7439), .int (i 7440), .ref 124] (by rfl) ?_ | refine ft_go mi_k158 6 12 [(0, .ref 116)] [.int (i 7439), .int (i 7440), .ref 124] i a q r (by rfl) ?_
  refine ko_iast3 mi_k158.1 (n := 61) (c := 61) (ax := (0, 0, 0, 0, 0)) (mi_k158.2 _ _ (by rfl)) (by rfl) (ksG124 _ _ _ _) (ksA124 _ _ _ _) (hG.I.2.1 124) rfl (oq2 fi_7440.1) (oq372 fi_7437.2 hp1) ?_
  intro a2 ea2 fa2
  have hJ2 := kG_a3 hG 124 rfl ea2 fa2 (kd_bd _)
  first | refine ft_goS mi_k158 1 14 [.ref 116] (by rfl) ?_ | refine ft_go mi_k158 1 14 [(0, .ref 116)] [.ref 116] i a2 q r (by rfl) ?_
  have nn0 := koq0
  have nn1 := koq1
  have nn5 := koq5
  refine ko_callI mi_k158.1 (pc := 14) (ls := [(0, .ref 116)]) (st := [.ref 116]) (h := ks i a2 q r) (i := (.invokevirtual 193, 3, 157, 0, 9, 0, 397)) (mi_k158.2 _ _ (by rfl)) (ft_invS mi_pq157 (by rfl)) (cy := mi_c157) mi_pq157 rfl ((kMallQ 6).1 _ _ _ _ hJ2.I hJ2.R (by omega) (oq222 hp0.2.1) (oq222 hp0.2.2) t nn ((fa2 119 (by decide)).trans hT) hN hX) (by decide) ?_
  intro vg3 ig3 ag3 qg3 rg3 kg3 hg3
  have hGg3 := kG_call hJ2 kg3 (by decide +kernel)
  obtain ⟨hg3, og3⟩ := hg3
  have fig3_7437 : ((0 : Int) ≤ (ig3 7437).toInt) ∧ ((ig3 7437).toInt ≤ 120) := hGg3.I.1 7437
  have fig3_7429 : ((0 : Int) ≤ (ig3 7429).toInt) ∧ ((ig3 7429).toInt ≤ 120) := hGg3.I.1 7429
  have efig3_7429 : (ig3 7429).toInt = (i 7429).toInt := kg3.ti 7429 rfl
  have fig3_7439 : ((0 : Int) ≤ (ig3 7439).toInt) ∧ ((ig3 7439).toInt ≤ 200) := hGg3.I.1 7439
  have z4 : ((ig3 7438).toInt = (i 7438).toInt) ∧ ((i 7437).toInt ≤ (ig3 7437).toInt) ∧ ((ig3 7437).toInt ≤ (ig3 7429).toInt) ∧ (((ig3 7439).toInt - (ig3 7437).toInt) ≤ ((i 7439).toInt - (i 7437).toInt)) ∧ ((i 7439).toInt ≤ (ig3 7439).toInt) ∧ ((0 : Int) ≤ vg3.toInt) ∧ (vg3.toInt ≤ 1) ∧ (((vg3.toInt = 1) → (((i 7437).toInt + 1) ≤ (ig3 7437).toInt))) := hg3
  refine ft_ifS mi_k158 (vg3 != 0) 22 20 [] (by rfl) (fun c => ?_) (fun c => ?_)
  ·
    have c5 : vg3.toInt ≠ (0 : Int32).toInt := kd_ne c; clear c
    have fig3_7440 : ((0 : Int) ≤ (ig3 7440).toInt) ∧ ((ig3 7440).toInt ≤ 61) := hGg3.I.1 7440
    have efig3_7440 : (ig3 7440).toInt = (i 7440).toInt := kg3.ti 7440 rfl
    first | refine fo_goS mi_k158 fz158_22_8_38 [.int (ig3 7440), .ref 124, .int (ig3 7440), .ref 125] (by rfl) ?_ | refine ft_go mi_k158 8 38 [(0, .ref 116)] [.int (ig3 7440), .ref 124, .int (ig3 7440), .ref 125] ig3 ag3 qg3 rg3 (by rfl) ?_
    refine ko_iald3 mi_k158.1 (n := 61) (c := 61) (ax := (0, 0, 0, 0, 0)) (mi_k158.2 _ _ (by rfl)) (by rfl) (ksG124 _ _ _ _) (hGg3.I.2.1 124) rfl (oq2 fig3_7440.1) (oq373 efig3_7440 fi_7437.2 hp1) ?_
    refine ko_iast3 mi_k158.1 (n := 61) (c := 61) (ax := (0, 0, 0, 0, 0)) (mi_k158.2 _ _ (by rfl)) (by rfl) (ksG125 _ _ _ _) (ksA125 _ _ _ _) (hGg3.I.2.1 125) rfl (oq2 fig3_7440.1) (oq373 efig3_7440 fi_7437.2 hp1) ?_
    intro a6 ea6 fa6
    have hJ6 := kG_a3 hGg3 125 rfl ea6 fa6 (kd_bd _)
    first | refine ft_goS mi_k158 2 43 [.int 63, .ref 116] (by rfl) ?_ | refine ft_go mi_k158 2 43 [(0, .ref 116)] [.int 63, .ref 116] ig3 a6 qg3 rg3 (by rfl) ?_
    refine ko_callI mi_k158.1 (pc := 43) (ls := [(0, .ref 116)]) (st := [.int 63, .ref 116]) (h := ks ig3 a6 qg3 rg3) (i := (.invokevirtual 187, 3, 148, 0, 9, 0, 407)) (mi_k158.2 _ _ (by rfl)) (ft_invS mi_pq148 (by rfl)) (cy := mi_c148) mi_pq148 rfl (ke148_116 hJ6.I hJ6.R 63 (oq374 koq63) t nn ((((fa6 119 (by decide)).trans (kg3.fa 119 rfl)).trans (fa2 119 (by decide))).trans hT) ((kg3.fi 7429 rfl).trans hN) hX) (by decide) ?_
    intro vg7 ig7 ag7 qg7 rg7 kg7 hg7
    have hGg7 := kG_call hJ6 kg7 (by decide +kernel)
    obtain ⟨hg7, og7⟩ := hg7
    have fig7_7437 : ((0 : Int) ≤ (ig7 7437).toInt) ∧ ((ig7 7437).toInt ≤ 120) := hGg7.I.1 7437
    have z8 : (((vg7.toInt = 1) ∧ ((ig7 7437).toInt = ((ig3 7437).toInt + 1)) ∧ ((ig3 7437).toInt < (ig3 7429).toInt) ∧ ((cHr t nn (ig3 7437) 0).toInt = (63 : Int32).toInt)) ∨ ((vg7.toInt = 0) ∧ ((ig7 7437).toInt = (ig3 7437).toInt))) ∧ (((vg7.toInt = 0) → ((cHr t nn (ig3 7437) 0).toInt ≠ (63 : Int32).toInt))) := hg7
    have q9 : ((ig7 7437).toInt = (ig3 7437).toInt → (cHr t nn (ig7 7437) 0).toInt = (cHr t nn (ig3 7437) 0).toInt) := fun h => congrArg Int32.toInt (kHr_c (t := t) (n := nn) (kj_v h) rfl)
    refine ft_ifS mi_k158 (vg7 == 0) 71 49 [] (by rfl) (fun c => ?_) (fun c => ?_)
    ·
      have c10 : vg7.toInt = (0 : Int32).toInt := kd_eq c; clear c
      have fig7_7440 : ((0 : Int) ≤ (ig7 7440).toInt) ∧ ((ig7 7440).toInt ≤ 61) := hGg7.I.1 7440
      have efig7_7440 : (ig7 7440).toInt = (ig3 7440).toInt := kg7.ti 7440 rfl
      have s11 : ((ig7 7440) + 1).toInt = (ig7 7440).toInt + (1 : Int32).toInt := kd_add (oq115 fig7_7440.1 koq1) (oq375 fig7_7440.2 koq1)
      have hJ12 := kG_i hGg7 7440 rfl (v := ((ig7 7440) + 1)) ⟨(oq117 fig7_7440.1 s11 koq1), (oq376 efig3_7440 efig7_7440 fi_7437.2 hp1 s11 koq1)⟩
      have efig7_7439 : (ig7 7439).toInt = (ig3 7439).toInt := kg7.ti 7439 rfl
      first | refine ft_goI mi_k158 11 90 [.int (ig7 7439), .int (ig7 7440), .ref 126] (ku ig7 7440 ((ig7 7440) + 1)) (by rfl) ?_ | refine ft_go mi_k158 11 90 [(0, .ref 116)] [.int (ig7 7439), .int (ig7 7440), .ref 126] (ku ig7 7440 ((ig7 7440) + 1)) ag7 qg7 rg7 (by rfl) ?_
      refine ko_iast3 mi_k158.1 (n := 61) (c := 61) (ax := (0, 0, 0, 0, 0)) (mi_k158.2 _ _ (by rfl)) (by rfl) (ksG126 _ _ _ _) (ksA126 _ _ _ _) (hJ12.I.2.1 126) rfl (oq2 fig7_7440.1) (oq377 efig3_7440 efig7_7440 fi_7437.2 hp1) ?_
      intro a13 ea13 fa13
      have hJ13 := kG_a3 hJ12 126 rfl ea13 fa13 (kd_bd _)
      first | refine ft_goS mi_k158 1 92 [.int 1] (by rfl) ?_ | refine ft_go mi_k158 1 92 [(0, .ref 116)] [.int 1] (ku ig7 7440 ((ig7 7440) + 1)) a13 qg7 rg7 (by rfl) ?_
      have efig7_7429 : (ig7 7429).toInt = (ig3 7429).toInt := kg7.ti 7429 rfl
      have efig7_7438 : (ig7 7438).toInt = (ig3 7438).toInt := kg7.ti 7438 rfl
      have to14 : (vg3, (ig3 7437, ig3 7439, ag3 127)) = rE t nn 6 (i 7437, i 7439, a 127) := og3.trans (congrArg (rE t nn 6) (kT3 rfl rfl (fa2 127 (by decide))))
      have tk7 : (vg7, (ig7 7437, ig7 7439, a13 127)) = rTk t nn 63 (ig3 7437, ig3 7439, ag3 127) := tTkR og7 (kT2 (kg7.fi 7439 rfl) ((fa13 127 (by decide)).trans ((kg7.fa 127 rfl).trans (fa6 127 (by decide)))))
      have tl15 : ((1 : Int32), ((ig7 7437, ig7 7439, a13 127), ((ig7 7440) + 1), a13 124, a13 125, a13 126)) = rLin t nn ((i 7437, i 7439, a 127), i 7440, a 124, a 125, a 126) := (rLi_one to14 (oq151 c5 z4.2.2.2.2.2.1 koq0) tk7 (oq145 c10 koq0) (show a13 124 = (a 124).set (i 7440).toNatClampNeg (i 7439) from by first | rfl | (simp only [fa13 124 (by decide), kg7.fa 124 rfl, fa6 124 (by decide), kg3.fa 124 rfl, ea2]; done) | (simp only [fa13 124 (by decide), kg7.fa 124 rfl, fa6 124 (by decide), kg3.fa 124 rfl, ea2]; rfl)) (show a13 125 = (a 125).set (i 7440).toNatClampNeg (((a 124).set (i 7440).toNatClampNeg (i 7439)).getD (i 7440).toNatClampNeg 0) from by first | rfl | (simp only [fa13 125 (by decide), kg7.fa 125 rfl, ea6, kg3.fa 125 rfl, (show ig3 7440 = i 7440 from kg3.fi 7440 rfl), kg3.fa 124 rfl, ea2, fa2 125 (by decide)]; done) | (simp only [fa13 125 (by decide), kg7.fa 125 rfl, ea6, kg3.fa 125 rfl, (show ig3 7440 = i 7440 from kg3.fi 7440 rfl), kg3.fa 124 rfl, ea2, fa2 125 (by decide)]; rfl)) (show a13 126 = (a 126).set (i 7440).toNatClampNeg (ig7 7439) from by first | rfl | (simp only [ea13, (show ig7 7439 = ig3 7439 from kg7.fi 7439 rfl), kg7.fa 126 rfl, (show ig7 7440 = ig3 7440 from kg7.fi 7440 rfl), (show ig3 7440 = i 7440 from kg3.fi 7440 rfl), fa6 126 (by decide), kg3.fa 126 rfl, fa2 126 (by decide)]; done) | (simp only [ea13, (show ig7 7439 = ig3 7439 from kg7.fi 7439 rfl), kg7.fa 126 rfl, (show ig7 7440 = ig3 7440 from kg7.fi 7440 rfl), (show ig3 7440 = i 7440 from kg3.fi 7440 rfl), fa6 126 (by decide), kg3.fa 126 rfl, fa2 126 (by decide)]; rfl)) (show ((ig7 7440) + 1) = i 7440 + 1 from by first | rfl | (simp only [(show ig7 7440 = ig3 7440 from kg7.fi 7440 rfl), (show ig3 7440 = i 7440 from kg3.fi 7440 rfl)]; done) | (simp only [(show ig7 7440 = ig3 7440 from kg7.fi 7440 rfl), (show ig3 7440 = i 7440 from kg3.fi 7440 rfl)]; rfl)) rfl)
      exact ft_ret mi_k158 (by rfl) (hP 1 _ _ _ _ hJ13 ⟨(oq378 c10 c5 efig3_7440 efig7_7429 efig7_7438 efig7_7439 efig7_7440 hp0.1 hp0.2.1 hp1 s11 z4.1 z4.2.1 z4.2.2.1 z4.2.2.2.1 z4.2.2.2.2.2.1 z4.2.2.2.2.2.2.1 z4.2.2.2.2.2.2.2 z8.1 koq0 koq1 koq63), tl15⟩)
    ·
      have c16 : vg7.toInt ≠ (0 : Int32).toInt := kd_eqF c; clear c
      have fig7_7440 : ((0 : Int) ≤ (ig7 7440).toInt) ∧ ((ig7 7440).toInt ≤ 61) := hGg7.I.1 7440
      have efig7_7440 : (ig7 7440).toInt = (ig3 7440).toInt := kg7.ti 7440 rfl
      have fig7_7439 : ((0 : Int) ≤ (ig7 7439).toInt) ∧ ((ig7 7439).toInt ≤ 200) := hGg7.I.1 7439
      have efig7_7439 : (ig7 7439).toInt = (ig3 7439).toInt := kg7.ti 7439 rfl
      first | refine fo_goS mi_k158 fz158_49_6_61 [.int (ig7 7439), .int (ig7 7440), .ref 125] (by rfl) ?_ | refine ft_go mi_k158 6 61 [(0, .ref 116)] [.int (ig7 7439), .int (ig7 7440), .ref 125] ig7 ag7 qg7 rg7 (by rfl) ?_
      refine ko_iast3 mi_k158.1 (n := 61) (c := 61) (ax := (0, 0, 0, 0, 0)) (mi_k158.2 _ _ (by rfl)) (by rfl) (ksG125 _ _ _ _) (ksA125 _ _ _ _) (hGg7.I.2.1 125) rfl (oq2 fig7_7440.1) (oq377 efig3_7440 efig7_7440 fi_7437.2 hp1) ?_
      intro a17 ea17 fa17
      have hJ17 := kG_a3 hGg7 125 rfl ea17 fa17 (kd_bd _)
      first | refine ft_goS mi_k158 1 63 [.ref 116] (by rfl) ?_ | refine ft_go mi_k158 1 63 [(0, .ref 116)] [.ref 116] ig7 a17 qg7 rg7 (by rfl) ?_
      have nn0 := koq0
      have nn1 := koq1
      have nn5 := koq5
      have efig7_7438 : (ig7 7438).toInt = (ig3 7438).toInt := kg7.ti 7438 rfl
      have fig7_7429 : ((0 : Int) ≤ (ig7 7429).toInt) ∧ ((ig7 7429).toInt ≤ 120) := hJ17.I.1 7429
      have efig7_7429 : (ig7 7429).toInt = (ig3 7429).toInt := kg7.ti 7429 rfl
      refine ko_callI mi_k158.1 (pc := 63) (ls := [(0, .ref 116)]) (st := [.ref 116]) (h := ks ig7 a17 qg7 rg7) (i := (.invokevirtual 193, 3, 157, 0, 9, 0, 397)) (mi_k158.2 _ _ (by rfl)) (ft_invS mi_pq157 (by rfl)) (cy := mi_c157) mi_pq157 rfl ((kMallQ 6).1 _ _ _ _ hJ17.I hJ17.R (by have := koq0; have := koq63; omega) (oq379 efig7_7439 hp0.2.1 z4.2.2.2.1 z8.1 koq63) (oq380 efig7_7429 z4.2.2.1 z8.1 koq63) t nn ((((((fa17 119 (by decide)).trans (kg7.fa 119 rfl)).trans (fa6 119 (by decide))).trans (kg3.fa 119 rfl)).trans (fa2 119 (by decide))).trans hT) (((kg7.fi 7429 rfl).trans (kg3.fi 7429 rfl)).trans hN) hX) (by decide) ?_
      intro vg18 ig18 ag18 qg18 rg18 kg18 hg18
      have hGg18 := kG_call hJ17 kg18 (by decide +kernel)
      obtain ⟨hg18, og18⟩ := hg18
      have z19 : ((ig18 7438).toInt = (ig7 7438).toInt) ∧ ((ig7 7437).toInt ≤ (ig18 7437).toInt) ∧ ((ig18 7437).toInt ≤ (ig18 7429).toInt) ∧ (((ig18 7439).toInt - (ig18 7437).toInt) ≤ ((ig7 7439).toInt - (ig7 7437).toInt)) ∧ ((ig7 7439).toInt ≤ (ig18 7439).toInt) ∧ ((0 : Int) ≤ vg18.toInt) ∧ (vg18.toInt ≤ 1) ∧ (((vg18.toInt = 1) → (((ig7 7437).toInt + 1) ≤ (ig18 7437).toInt))) := hg18
      refine ft_ifS mi_k158 (vg18 != 0) 71 69 [] (by rfl) (fun c => ?_) (fun c => ?_)
      ·
        have c20 : vg18.toInt ≠ (0 : Int32).toInt := kd_ne c; clear c
        have fig18_7440 : ((0 : Int) ≤ (ig18 7440).toInt) ∧ ((ig18 7440).toInt ≤ 61) := hGg18.I.1 7440
        have efig18_7440 : (ig18 7440).toInt = (ig7 7440).toInt := kg18.ti 7440 rfl
        have s21 : ((ig18 7440) + 1).toInt = (ig18 7440).toInt + (1 : Int32).toInt := kd_add (oq115 fig18_7440.1 koq1) (oq375 fig18_7440.2 koq1)
        have hJ22 := kG_i hGg18 7440 rfl (v := ((ig18 7440) + 1)) ⟨(oq117 fig18_7440.1 s21 koq1), (oq381 efig18_7440 efig3_7440 efig7_7440 fi_7437.2 hp1 s21 koq1)⟩
        first | refine ft_goI mi_k158 11 90 [.int (ig18 7439), .int (ig18 7440), .ref 126] (ku ig18 7440 ((ig18 7440) + 1)) (by rfl) ?_ | refine ft_go mi_k158 11 90 [(0, .ref 116)] [.int (ig18 7439), .int (ig18 7440), .ref 126] (ku ig18 7440 ((ig18 7440) + 1)) ag18 qg18 rg18 (by rfl) ?_
        refine ko_iast3 mi_k158.1 (n := 61) (c := 61) (ax := (0, 0, 0, 0, 0)) (mi_k158.2 _ _ (by rfl)) (by rfl) (ksG126 _ _ _ _) (ksA126 _ _ _ _) (hJ22.I.2.1 126) rfl (oq2 fig18_7440.1) (oq382 efig18_7440 efig3_7440 efig7_7440 fi_7437.2 hp1) ?_
        intro a23 ea23 fa23
        have hJ23 := kG_a3 hJ22 126 rfl ea23 fa23 (kd_bd _)
        first | refine ft_goS mi_k158 1 92 [.int 1] (by rfl) ?_ | refine ft_go mi_k158 1 92 [(0, .ref 116)] [.int 1] (ku ig18 7440 ((ig18 7440) + 1)) a23 qg18 rg18 (by rfl) ?_
        have to24 : (vg3, (ig3 7437, ig3 7439, ag3 127)) = rE t nn 6 (i 7437, i 7439, a 127) := og3.trans (congrArg (rE t nn 6) (kT3 rfl rfl (fa2 127 (by decide))))
        have tk7 : (vg7, (ig7 7437, ig7 7439, ag7 127)) = rTk t nn 63 (ig3 7437, ig3 7439, ag3 127) := tTkR og7 (kT2 (kg7.fi 7439 rfl) ((kg7.fa 127 rfl).trans (fa6 127 (by decide))))
        have tl25 : ((1 : Int32), ((ig18 7437, ig18 7439, a23 127), ((ig18 7440) + 1), a23 124, a23 125, a23 126)) = rLin t nn ((i 7437, i 7439, a 127), i 7440, a 124, a 125, a 126) := (rLi_two1 to24 (oq151 c5 z4.2.2.2.2.2.1 koq0) tk7 (oq384 c16 z8.1 koq0 koq63) ((congrArg (fun z : List Int32 => (vg18, ig18 7437, ig18 7439, z)) (fa23 127 (by decide))).trans (og18.trans (congrArg (rE t nn 6) (kT3 rfl rfl (fa17 127 (by decide)))))) (show a23 124 = (a 124).set (i 7440).toNatClampNeg (i 7439) from by first | rfl | (simp only [fa23 124 (by decide), kg18.fa 124 rfl, fa17 124 (by decide), kg7.fa 124 rfl, fa6 124 (by decide), kg3.fa 124 rfl, ea2]; done) | (simp only [fa23 124 (by decide), kg18.fa 124 rfl, fa17 124 (by decide), kg7.fa 124 rfl, fa6 124 (by decide), kg3.fa 124 rfl, ea2]; rfl)) (show a23 125 = ((a 125).set (i 7440).toNatClampNeg (((a 124).set (i 7440).toNatClampNeg (i 7439)).getD (i 7440).toNatClampNeg 0)).set (i 7440).toNatClampNeg (ig7 7439) from by first | rfl | (simp only [fa23 125 (by decide), (show ig7 7439 = ig3 7439 from kg7.fi 7439 rfl), kg18.fa 125 rfl, ea17, kg7.fa 125 rfl, (show ig7 7440 = ig3 7440 from kg7.fi 7440 rfl), (show ig3 7440 = i 7440 from kg3.fi 7440 rfl), ea6, kg3.fa 125 rfl, kg3.fa 124 rfl, ea2, fa2 125 (by decide)]; done) | (simp only [fa23 125 (by decide), (show ig7 7439 = ig3 7439 from kg7.fi 7439 rfl), kg18.fa 125 rfl, ea17, kg7.fa 125 rfl, (show ig7 7440 = ig3 7440 from kg7.fi 7440 rfl), (show ig3 7440 = i 7440 from kg3.fi 7440 rfl), ea6, kg3.fa 125 rfl, kg3.fa 124 rfl, ea2, fa2 125 (by decide)]; rfl)) (oq151 c20 z19.2.2.2.2.2.1 koq0) (show a23 126 = (a 126).set (i 7440).toNatClampNeg (ig18 7439) from by first | rfl | (simp only [ea23, kg18.fa 126 rfl, (show ig18 7440 = ig7 7440 from kg18.fi 7440 rfl), (show ig7 7440 = ig3 7440 from kg7.fi 7440 rfl), (show ig3 7440 = i 7440 from kg3.fi 7440 rfl), fa17 126 (by decide), kg7.fa 126 rfl, fa6 126 (by decide), kg3.fa 126 rfl, fa2 126 (by decide)]; done) | (simp only [ea23, kg18.fa 126 rfl, (show ig18 7440 = ig7 7440 from kg18.fi 7440 rfl), (show ig7 7440 = ig3 7440 from kg7.fi 7440 rfl), (show ig3 7440 = i 7440 from kg3.fi 7440 rfl), fa17 126 (by decide), kg7.fa 126 rfl, fa6 126 (by decide), kg3.fa 126 rfl, fa2 126 (by decide)]; rfl)) (show ((ig18 7440) + 1) = i 7440 + 1 from by first | rfl | (simp only [(show ig18 7440 = ig7 7440 from kg18.fi 7440 rfl), (show ig7 7440 = ig3 7440 from kg7.fi 7440 rfl), (show ig3 7440 = i 7440 from kg3.fi 7440 rfl)]; done) | (simp only [(show ig18 7440 = ig7 7440 from kg18.fi 7440 rfl), (show ig7 7440 = ig3 7440 from kg7.fi 7440 rfl), (show ig3 7440 = i 7440 from kg3.fi 7440 rfl)]; rfl)) rfl)
        exact ft_ret mi_k158 (by rfl) (hP 1 _ _ _ _ hJ23 ⟨(oq383 c16 efig18_7440 efig3_7440 efig7_7438 efig7_7439 efig7_7440 hp0.1 hp0.2.1 hp1 s21 z19.1 z19.2.1 z19.2.2.1 z19.2.2.2.1 z4.1 z4.2.1 z4.2.2.2.1 z8.1 koq0 koq1 koq63), tl25⟩)
      ·
        have c26 : vg18.toInt = (0 : Int32).toInt := kd_neF c; clear c
        first | refine ft_goS mi_k158 1 70 [.int 0] (by rfl) ?_ | refine ft_go mi_k158 1 70 [(0, .ref 116)] [.int 0] ig18 ag18 qg18 rg18 (by rfl) ?_
        have to27 : (vg3, (ig3 7437, ig3 7439, ag3 127)) = rE t nn 6 (i 7437, i 7439, a 127) := og3.trans (congrArg (rE t nn 6) (kT3 rfl rfl (fa2 127 (by decide))))
        have tk7 : (vg7, (ig7 7437, ig7 7439, ag7 127)) = rTk t nn 63 (ig3 7437, ig3 7439, ag3 127) := tTkR og7 (kT2 (kg7.fi 7439 rfl) ((kg7.fa 127 rfl).trans (fa6 127 (by decide))))
        have tl28 : ((0 : Int32), ((ig18 7437, ig18 7439, ag18 127), ig18 7440, ag18 124, ag18 125, ag18 126)) = rLin t nn ((i 7437, i 7439, a 127), i 7440, a 124, a 125, a 126) := (rLi_two0 to27 (oq151 c5 z4.2.2.2.2.2.1 koq0) tk7 (oq384 c16 z8.1 koq0 koq63) (og18.trans (congrArg (rE t nn 6) (kT3 rfl rfl (fa17 127 (by decide))))) (show ag18 124 = (a 124).set (i 7440).toNatClampNeg (i 7439) from by first | rfl | (simp only [kg18.fa 124 rfl, fa17 124 (by decide), kg7.fa 124 rfl, fa6 124 (by decide), kg3.fa 124 rfl, ea2]; done) | (simp only [kg18.fa 124 rfl, fa17 124 (by decide), kg7.fa 124 rfl, fa6 124 (by decide), kg3.fa 124 rfl, ea2]; rfl)) (show ag18 125 = ((a 125).set (i 7440).toNatClampNeg (((a 124).set (i 7440).toNatClampNeg (i 7439)).getD (i 7440).toNatClampNeg 0)).set (i 7440).toNatClampNeg (ig7 7439) from by first | rfl | (simp only [kg18.fa 125 rfl, (show ig7 7439 = ig3 7439 from kg7.fi 7439 rfl), ea17, kg7.fa 125 rfl, (show ig7 7440 = ig3 7440 from kg7.fi 7440 rfl), (show ig3 7440 = i 7440 from kg3.fi 7440 rfl), ea6, kg3.fa 125 rfl, kg3.fa 124 rfl, ea2, fa2 125 (by decide)]; done) | (simp only [kg18.fa 125 rfl, (show ig7 7439 = ig3 7439 from kg7.fi 7439 rfl), ea17, kg7.fa 125 rfl, (show ig7 7440 = ig3 7440 from kg7.fi 7440 rfl), (show ig3 7440 = i 7440 from kg3.fi 7440 rfl), ea6, kg3.fa 125 rfl, kg3.fa 124 rfl, ea2, fa2 125 (by decide)]; rfl)) (oq143 c26 z19.2.2.2.2.2.1 koq0) ((kg18.fi 7440 rfl).trans ((kg7.fi 7440 rfl).trans (kg3.fi 7440 rfl))) ((((((kg18.fa 126 rfl).trans (fa17 126 (by decide))).trans (kg7.fa 126 rfl)).trans (fa6 126 (by decide))).trans (kg3.fa 126 rfl)).trans (fa2 126 (by decide))) rfl)
        exact ft_ret mi_k158 (by rfl) (hP 0 _ _ _ _ hGg18 ⟨(oq385 z19.2.1 z19.2.2.1 z4.2.1 z8.1 koq63 koq0), tl28⟩)
  ·
    have c29 : vg3.toInt = (0 : Int32).toInt := kd_neF c; clear c
    first | refine ft_goS mi_k158 1 21 [.int 0] (by rfl) ?_ | refine ft_go mi_k158 1 21 [(0, .ref 116)] [.int 0] ig3 ag3 qg3 rg3 (by rfl) ?_
    have to30 : (vg3, (ig3 7437, ig3 7439, ag3 127)) = rE t nn 6 (i 7437, i 7439, a 127) := og3.trans (congrArg (rE t nn 6) (kT3 rfl rfl (fa2 127 (by decide))))
    have tl31 : ((0 : Int32), ((ig3 7437, ig3 7439, ag3 127), ig3 7440, ag3 124, ag3 125, ag3 126)) = rLin t nn ((i 7437, i 7439, a 127), i 7440, a 124, a 125, a 126) := (rLi_no to30 (oq143 c29 z4.2.2.2.2.2.1 koq0) rfl (kg3.fi 7440 rfl) (show ag3 124 = (a 124).set (i 7440).toNatClampNeg (i 7439) from by first | rfl | (simp only [kg3.fa 124 rfl, ea2]; done) | (simp only [kg3.fa 124 rfl, ea2]; rfl)) ((kg3.fa 125 rfl).trans (fa2 125 (by decide))) ((kg3.fa 126 rfl).trans (fa2 126 (by decide))))
    exact ft_ret mi_k158 (by rfl) (hP 0 _ _ _ _ hGg3 ⟨(oq386 z4.2.1 z4.2.2.1 koq0), tl31⟩)
end
section
def zw159_116 : kW := ([7429, 7431, 7432, 7437, 7438, 7439, 7440], [120, 121, 122, 123, 124, 125, 126, 127], [], [])
def zw159_116_L25 : kW := ([7437, 7438, 7439, 7440], [124, 125, 126, 127], [], [])
def zw159_116_L99 : kW := ([], [120, 121, 122], [], [])
def zw159_116_L151 : kW := ([], [123], [], [])
set_option maxRecDepth 100000 in
set_option maxHeartbeats 4000000 in
theorem kf159_116 {i : Nat → Int32} {a : Nat → List Int32} {q : Nat → List Int64} {r : Nat → Nat} (hI : kI i a q) (hr : kr r) (t : List Int32) (nn : Int32) (hT : a 119 = t) (hN : i 7429 = nn) (hX : kBy t) : km 55 159 [.ref 116] (ks i a q r) (kVI zw159_116 i a q r (fun v i1 a1 q1 r1 => ((i1 7429).toInt = 0) ∧ ((rOk nn (rTxt t nn (a 127) (a 124) (a 125) (a 126)) ∧ v = 1 ∧ i1 7431 = 1 ∧ i1 7432 = (rTxt t nn (a 127) (a 124) (a 125) (a 126)).2.2.1 ∧ kCp (rTxt t nn (a 127) (a 124) (a 125) (a 126)).2.2.2.1 (a1 120) (rTxt t nn (a 127) (a 124) (a 125) (a 126)).2.2.1.toInt.toNat ∧ kCp (rTxt t nn (a 127) (a 124) (a 125) (a 126)).2.2.2.2.1 (a1 121) (rTxt t nn (a 127) (a 124) (a 125) (a 126)).2.2.1.toInt.toNat ∧ kCp (rTxt t nn (a 127) (a 124) (a 125) (a 126)).2.2.2.2.2 (a1 122) (rTxt t nn (a 127) (a 124) (a 125) (a 126)).2.2.1.toInt.toNat ∧ kCp (rTxt t nn (a 127) (a 124) (a 125) (a 126)).2.1.2.2 (a1 123) (rTxt t nn (a 127) (a 124) (a 125) (a 126)).2.1.2.1.toInt.toNat) ∨ (¬ rOk nn (rTxt t nn (a 127) (a 124) (a 125) (a 126)) ∧ v = -100 - (rTxt t nn (a 127) (a 124) (a 125) (a 126)).2.1.1 ∧ i1 7431 = i 7431 ∧ i1 7432 = i 7432 ∧ a1 120 = a 120 ∧ a1 121 = a 121 ∧ a1 122 = a 122 ∧ a1 123 = a 123)))) := by
  have hG := kG_self zw159_116 hI hr
  refine km_ofI (q := (mi_h159, mi_c159)) rfl (by decide) (Nat.le_of_ble_eq_true rfl) ?_
  intro P hP
  have hn1 : (i 7429).toInt = nn.toInt := congrArg Int32.toInt hN
  have hJ2 := kG_i hG 7437 rfl (v := 0) ⟨(oq387 koq0), (oq388 koq0)⟩
  have hJ3 := kG_i hJ2 7438 rfl (v := 0) (kd_bd _)
  have hJ4 := kG_i hJ3 7439 rfl (v := 0) ⟨(oq387 koq0), (oq389 koq0)⟩
  have hJ5 := kG_i hJ4 7440 rfl (v := 0) ⟨(oq387 koq0), (oq390 koq0)⟩
  first | refine fo_go mi_k159 fz159_0_13_21 [(0, .ref 116)] [.ref 116] (ku (ku (ku (ku i 7437 0) 7438 0) 7439 0) 7440 0) a q r (by rfl) ?_ | refine ft_go mi_k159 13 21 [(0, .ref 116)] [.ref 116] (ku (ku (ku (ku i 7437 0) 7438 0) 7439 0) 7440 0) a q r (by rfl) ?_
  have fi_7429 : ((0 : Int) ≤ (i 7429).toInt) ∧ ((i 7429).toInt ≤ 120) := hJ5.I.1 7429
  refine ko_callI mi_k159.1 (pc := 21) (ls := [(0, .ref 116)]) (st := [.ref 116]) (h := ks (ku (ku (ku (ku i 7437 0) 7438 0) 7439 0) 7440 0) a q r) (i := (.invokevirtual 211, 3, 158, 0, 9, 0, 396)) (mi_k159.2 _ _ (by rfl)) (ft_invS mi_pq158 (by rfl)) (cy := mi_c158) mi_pq158 rfl (ke158_116 hJ5.I hJ5.R (oq391 fi_7429.1 koq0) (oq392 koq0) t nn hT hN hX) (by decide) ?_
  intro vg6 ig6 ag6 qg6 rg6 kg6 hg6
  have hGg6 := kG_call hJ5 kg6 (by decide +kernel)
  obtain ⟨hg6, og6⟩ := hg6
  have fig6_7437 : ((0 : Int) ≤ (ig6 7437).toInt) ∧ ((ig6 7437).toInt ≤ 120) := hGg6.I.1 7437
  have fig6_7429 : ((0 : Int) ≤ (ig6 7429).toInt) ∧ ((ig6 7429).toInt ≤ 120) := hGg6.I.1 7429
  have efig6_7429 : (ig6 7429).toInt = (i 7429).toInt := kg6.ti 7429 rfl
  have fig6_7439 : ((0 : Int) ≤ (ig6 7439).toInt) ∧ ((ig6 7439).toInt ≤ 200) := hGg6.I.1 7439
  have fig6_7440 : ((0 : Int) ≤ (ig6 7440).toInt) ∧ ((ig6 7440).toInt ≤ 61) := hGg6.I.1 7440
  have z7 : ((ig6 7437).toInt ≤ (ig6 7429).toInt) ∧ ((0 : Int32).toInt ≤ (ig6 7437).toInt) ∧ ((0 : Int) ≤ vg6.toInt) ∧ (vg6.toInt ≤ 1) ∧ (((vg6.toInt = 1) → (((ig6 7438).toInt = 0) ∧ ((ig6 7439).toInt ≤ (ig6 7437).toInt) ∧ ((ig6 7437).toInt ≤ (ig6 7429).toInt) ∧ ((2 * (ig6 7440).toInt) ≤ ((ig6 7437).toInt + 1)) ∧ ((ig6 7440).toInt = ((0 : Int32).toInt + 1))))) := hg6
  first | refine ft_goL mi_k159 1 25 [(1, .int vg6), (0, .ref 116)] [] (by rfl) ?_ | refine ft_goS mi_k159 1 25 [] (by rfl) ?_ | refine ft_go mi_k159 1 25 [(1, .int vg6), (0, .ref 116)] [] ig6 ag6 qg6 rg6 (by rfl) ?_
  have lp8 : ∀ (nz : Nat) (i8 : Nat → Int32) (a8 : Nat → List Int32) (q8 : Nat → List Int64) (r8 : Nat → Nat) (l1_8 : Int32), kG zw159_116_L25 ig6 ag6 qg6 rg6 i8 a8 q8 r8 → ((0 : Int) ≤ l1_8.toInt) ∧ (l1_8.toInt ≤ 1) → ((l1_8.toInt = 1) → (((i8 7438).toInt = 0) ∧ ((i8 7439).toInt ≤ (i8 7437).toInt) ∧ ((i8 7437).toInt ≤ (i8 7429).toInt) ∧ ((2 * (i8 7440).toInt) ≤ ((i8 7437).toInt + 1)))) → (i8 7437).toInt ≤ (i8 7429).toInt → rGl t nn (l1_8, ((i8 7437, i8 7439, a8 127), i8 7440, a8 124, a8 125, a8 126)) (rTxt t nn (a 127) (a 124) (a 125) (a 126)) → ((((200 * l1_8.toInt) + (i8 7429).toInt) - (i8 7437).toInt)).toNat < nz → ko 55 (mi_h159, mi_c159) P (25, [(1, .int l1_8), (0, .ref 116)], [], (0, 0), ks i8 a8 q8 r8) := by
    intro nz
    induction nz with
    | zero =>
      intro _ _ _ _ _ _ _ _ _ _ hm
      exact absurd hm (Nat.not_lt_zero _)
    | succ nz ih8 =>
      intro i8 a8 q8 r8 l1_8 hL8 p8_0 p8_1 p8_2 O8_0 hm8
      have fi8_7439 : ((0 : Int) ≤ (i8 7439).toInt) ∧ ((i8 7439).toInt ≤ 200) := hL8.I.1 7439
      have fi8_7437 : ((0 : Int) ≤ (i8 7437).toInt) ∧ ((i8 7437).toInt ≤ 120) := hL8.I.1 7437
      have fi8_7429 : ((0 : Int) ≤ (i8 7429).toInt) ∧ ((i8 7429).toInt ≤ 120) := hL8.I.1 7429
      have efi8_7429 : (i8 7429).toInt = (ig6 7429).toInt := hL8.ti 7429 rfl
      have fi8_7440 : ((0 : Int) ≤ (i8 7440).toInt) ∧ ((i8 7440).toInt ≤ 61) := hL8.I.1 7440
      first | refine ft_goL mi_k159 1 26 [(1, .int l1_8), (0, .ref 116)] [.int l1_8] (by rfl) ?_ | refine ft_go mi_k159 1 26 [(1, .int l1_8), (0, .ref 116)] [.int l1_8] i8 a8 q8 r8 (by rfl) ?_
      refine ft_ifS mi_k159 (l1_8 == 0) 46 29 [] (by rfl) (fun c => ?_) (fun c => ?_)
      ·
        have c9 : l1_8.toInt = (0 : Int32).toInt := kd_eq c; clear c
        have hG10 := kG_call hGg6 hL8 (by decide +kernel)
        have hD11 : (l1_8, ((i8 7437, i8 7439, a8 127), i8 7440, a8 124, a8 125, a8 126)) = (rTxt t nn (a 127) (a 124) (a 125) (a 126)) := rGl_end O8_0 (oq143 c9 p8_0.1 koq0)
        first | refine ft_goS mi_k159 1 47 [.int l1_8] (by rfl) ?_ | refine ft_go mi_k159 1 47 [(1, .int l1_8), (0, .ref 116)] [.int l1_8] i8 a8 q8 r8 (by rfl) ?_
        refine ft_ifS mi_k159 (l1_8 == 0) 65 50 [] (by rfl) (fun c => ?_) (fun c => ?_)
        ·
          have c12 : l1_8.toInt = (0 : Int32).toInt := kd_eq c; clear c
          have hJ13 := kG_i hG10 7429 rfl (v := 0) ⟨(oq387 koq0), (oq388 koq0)⟩
          have s14 : ((-100) - (i8 7437)).toInt = ((-100) : Int32).toInt - (i8 7437).toInt := kd_sub (oq393 fi8_7437.2 koqm100) (oq394 fi8_7437.1 koqm100)
          first | refine fo_go mi_k159 fz159_62_11_83 [(2, .int 0), (1, .int l1_8), (0, .ref 116)] [.int ((-100) - (i8 7437))] (ku i8 7429 0) a8 q8 r8 (by rfl) ?_ | refine fo_go mi_k159 fz159_65_11_83 [(2, .int 0), (1, .int l1_8), (0, .ref 116)] [.int ((-100) - (i8 7437))] (ku i8 7429 0) a8 q8 r8 (by rfl) ?_ | refine ft_go mi_k159 11 83 [(2, .int 0), (1, .int l1_8), (0, .ref 116)] [.int ((-100) - (i8 7437))] (ku i8 7429 0) a8 q8 r8 (by rfl) ?_
          exact ft_ret mi_k159 (by rfl) (hP ((-100) - (i8 7437)) _ _ _ _ hJ13 ⟨(oq395 koq0), (Eq.subst (motive := fun z : Int32 × rL => ((rOk nn z ∧ ((-100) - (i8 7437)) = 1 ∧ i8 7431 = 1 ∧ i8 7432 = z.2.2.1 ∧ kCp z.2.2.2.1 (a8 120) z.2.2.1.toInt.toNat ∧ kCp z.2.2.2.2.1 (a8 121) z.2.2.1.toInt.toNat ∧ kCp z.2.2.2.2.2 (a8 122) z.2.2.1.toInt.toNat ∧ kCp z.2.1.2.2 (a8 123) z.2.1.2.1.toInt.toNat) ∨ (¬ rOk nn z ∧ ((-100) - (i8 7437)) = -100 - z.2.1.1 ∧ i8 7431 = i 7431 ∧ i8 7432 = i 7432 ∧ a8 120 = a 120 ∧ a8 121 = a 121 ∧ a8 122 = a 122 ∧ a8 123 = a 123))) hD11 (Or.inr ⟨(fun z => absurd z (oq396 c9 p8_0.1 koq0)), (show ((-100) - (i8 7437)) = -100 - i8 7437 from by first | rfl | (simp only []; done) | (simp only []; rfl)), ((hL8.fi 7431 rfl).trans (kg6.fi 7431 rfl)), ((hL8.fi 7432 rfl).trans (kg6.fi 7432 rfl)), ((hL8.fa 120 rfl).trans (kg6.fa 120 rfl)), ((hL8.fa 121 rfl).trans (kg6.fa 121 rfl)), ((hL8.fa 122 rfl).trans (kg6.fa 122 rfl)), ((hL8.fa 123 rfl).trans (kg6.fa 123 rfl))⟩))⟩)
        ·
          have c15 : l1_8.toInt ≠ (0 : Int32).toInt := kd_eqF c; clear c
          exact (oq397 c15 c9 p8_0.1 koq0).elim
      ·
        have c16 : l1_8.toInt ≠ (0 : Int32).toInt := kd_eqF c; clear c
        first | refine ft_goS mi_k159 2 32 [.int 59, .ref 116] (by rfl) ?_ | refine ft_go mi_k159 2 32 [(1, .int l1_8), (0, .ref 116)] [.int 59, .ref 116] i8 a8 q8 r8 (by rfl) ?_
        refine ko_callI mi_k159.1 (pc := 32) (ls := [(1, .int l1_8), (0, .ref 116)]) (st := [.int 59, .ref 116]) (h := ks i8 a8 q8 r8) (i := (.invokevirtual 187, 3, 148, 0, 9, 0, 407)) (mi_k159.2 _ _ (by rfl)) (ft_invS mi_pq148 (by rfl)) (cy := mi_c148) mi_pq148 rfl (ke148_116 hL8.I hL8.R 59 (oq398 koq59) t nn (((hL8.fa 119 rfl).trans (kg6.fa 119 rfl)).trans hT) (((hL8.fi 7429 rfl).trans (kg6.fi 7429 rfl)).trans hN) hX) (by decide) ?_
        intro vg17 ig17 ag17 qg17 rg17 kg17 hg17
        have hGg17 := kG_call hL8 kg17 (by decide +kernel)
        obtain ⟨hg17, og17⟩ := hg17
        have fig17_7437 : ((0 : Int) ≤ (ig17 7437).toInt) ∧ ((ig17 7437).toInt ≤ 120) := hGg17.I.1 7437
        have z18 : (((vg17.toInt = 1) ∧ ((ig17 7437).toInt = ((i8 7437).toInt + 1)) ∧ ((i8 7437).toInt < (i8 7429).toInt) ∧ ((cHr t nn (i8 7437) 0).toInt = (59 : Int32).toInt)) ∨ ((vg17.toInt = 0) ∧ ((ig17 7437).toInt = (i8 7437).toInt))) ∧ (((vg17.toInt = 0) → ((cHr t nn (i8 7437) 0).toInt ≠ (59 : Int32).toInt))) := hg17
        have q19 : ((ig17 7437).toInt = (i8 7437).toInt → (cHr t nn (ig17 7437) 0).toInt = (cHr t nn (i8 7437) 0).toInt) := fun h => congrArg Int32.toInt (kHr_c (t := t) (n := nn) (kj_v h) rfl)
        refine ft_ifS mi_k159 (vg17 == 0) 46 38 [] (by rfl) (fun c => ?_) (fun c => ?_)
        ·
          have c20 : vg17.toInt = (0 : Int32).toInt := kd_eq c; clear c
          have hG21 := kG_call hGg6 hGg17 (by decide +kernel)
          have tk17 : (vg17, (ig17 7437, ig17 7439, ag17 127)) = rTk t nn 59 (i8 7437, i8 7439, a8 127) := tTkR og17 (kT2 (kg17.fi 7439 rfl) (kg17.fa 127 rfl))
          have hD22 : (l1_8, ((ig17 7437, ig17 7439, ag17 127), ig17 7440, ag17 124, ag17 125, ag17 126)) = (rTxt t nn (a 127) (a 124) (a 125) (a 126)) := by
            rw [kg17.fi 7440 rfl, kg17.fa 124 rfl, kg17.fa 125 rfl, kg17.fa 126 rfl]
            exact rGl_out O8_0 (oq151 c16 p8_0.1 koq0) tk17 (oq145 c20 koq0)
          first | refine ft_goL mi_k159 1 47 [(1, .int l1_8), (0, .ref 116)] [.int l1_8] (by rfl) ?_ | refine ft_go mi_k159 1 47 [(1, .int l1_8), (0, .ref 116)] [.int l1_8] ig17 ag17 qg17 rg17 (by rfl) ?_
          refine ft_ifS mi_k159 (l1_8 == 0) 65 50 [] (by rfl) (fun c => ?_) (fun c => ?_)
          ·
            have c23 : l1_8.toInt = (0 : Int32).toInt := kd_eq c; clear c
            exact (oq397 c16 c23 p8_0.1 koq0).elim
          ·
            have c24 : l1_8.toInt ≠ (0 : Int32).toInt := kd_eqF c; clear c
            have fig17_7429 : ((0 : Int) ≤ (ig17 7429).toInt) ∧ ((ig17 7429).toInt ≤ 120) := hG21.I.1 7429
            have efig17_7429 : (ig17 7429).toInt = (i8 7429).toInt := kg17.ti 7429 rfl
            first | refine ft_goS mi_k159 4 58 [.int (ig17 7429), .int (ig17 7437)] (by rfl) ?_ | refine ft_go mi_k159 4 58 [(1, .int l1_8), (0, .ref 116)] [.int (ig17 7429), .int (ig17 7437)] ig17 ag17 qg17 rg17 (by rfl) ?_
            refine ft_ifS mi_k159 ((ig17 7437) != (ig17 7429)) 65 61 [] (by rfl) (fun c => ?_) (fun c => ?_)
            ·
              have c25 : (ig17 7437).toInt ≠ (ig17 7429).toInt := kd_ne c; clear c
              have hJ26 := kG_i hG21 7429 rfl (v := 0) ⟨(oq387 koq0), (oq388 koq0)⟩
              have s27 : ((-100) - (ig17 7437)).toInt = ((-100) : Int32).toInt - (ig17 7437).toInt := kd_sub (oq393 fig17_7437.2 koqm100) (oq394 fig17_7437.1 koqm100)
              first | refine fo_go mi_k159 fz159_62_11_83 [(2, .int 0), (1, .int l1_8), (0, .ref 116)] [.int ((-100) - (ig17 7437))] (ku ig17 7429 0) ag17 qg17 rg17 (by rfl) ?_ | refine fo_go mi_k159 fz159_65_11_83 [(2, .int 0), (1, .int l1_8), (0, .ref 116)] [.int ((-100) - (ig17 7437))] (ku ig17 7429 0) ag17 qg17 rg17 (by rfl) ?_ | refine ft_go mi_k159 11 83 [(2, .int 0), (1, .int l1_8), (0, .ref 116)] [.int ((-100) - (ig17 7437))] (ku ig17 7429 0) ag17 qg17 rg17 (by rfl) ?_
              exact ft_ret mi_k159 (by rfl) (hP ((-100) - (ig17 7437)) _ _ _ _ hJ26 ⟨(oq395 koq0), (Eq.subst (motive := fun z : Int32 × rL => ((rOk nn z ∧ ((-100) - (ig17 7437)) = 1 ∧ ig17 7431 = 1 ∧ ig17 7432 = z.2.2.1 ∧ kCp z.2.2.2.1 (ag17 120) z.2.2.1.toInt.toNat ∧ kCp z.2.2.2.2.1 (ag17 121) z.2.2.1.toInt.toNat ∧ kCp z.2.2.2.2.2 (ag17 122) z.2.2.1.toInt.toNat ∧ kCp z.2.1.2.2 (ag17 123) z.2.1.2.1.toInt.toNat) ∨ (¬ rOk nn z ∧ ((-100) - (ig17 7437)) = -100 - z.2.1.1 ∧ ig17 7431 = i 7431 ∧ ig17 7432 = i 7432 ∧ ag17 120 = a 120 ∧ ag17 121 = a 121 ∧ ag17 122 = a 122 ∧ ag17 123 = a 123))) hD22 (Or.inr ⟨(fun z => absurd z (oq428 c20 c25 efi8_7429 efig17_7429 efig6_7429 hn1 p8_2 z18.1 koq0 koq59)), (show ((-100) - (ig17 7437)) = -100 - ig17 7437 from by first | rfl | (simp only []; done) | (simp only []; rfl)), ((kg17.fi 7431 rfl).trans ((hL8.fi 7431 rfl).trans (kg6.fi 7431 rfl))), ((kg17.fi 7432 rfl).trans ((hL8.fi 7432 rfl).trans (kg6.fi 7432 rfl))), (((kg17.fa 120 rfl).trans (hL8.fa 120 rfl)).trans (kg6.fa 120 rfl)), (((kg17.fa 121 rfl).trans (hL8.fa 121 rfl)).trans (kg6.fa 121 rfl)), (((kg17.fa 122 rfl).trans (hL8.fa 122 rfl)).trans (kg6.fa 122 rfl)), (((kg17.fa 123 rfl).trans (hL8.fa 123 rfl)).trans (kg6.fa 123 rfl))⟩))⟩)
            ·
              have c28 : (ig17 7437).toInt = (ig17 7429).toInt := kd_neF c; clear c
              have hJ29 := kG_i hG21 7429 rfl (v := 0) ⟨(oq387 koq0), (oq388 koq0)⟩
              have hJ30 := kG_i hJ29 7431 rfl (v := 1) ⟨(oq400 koq1), (oq401 koq1)⟩
              have fig17_7440 : ((0 : Int) ≤ (ig17 7440).toInt) ∧ ((ig17 7440).toInt ≤ 61) := hJ30.I.1 7440
              have efig17_7440 : (ig17 7440).toInt = (i8 7440).toInt := kg17.ti 7440 rfl
              have hJ31 := kG_i hJ30 7432 rfl (v := (ig17 7440)) ⟨(oq2 fig17_7440.1), (oq402 c16 efig17_7440 fi8_7437.2 p8_0.1 p8_0.2 p8_1 koq0)⟩
              first | refine fo_go mi_k159 fz159_61_17_99 [(3, .int 0), (2, .int 1), (1, .int l1_8), (0, .ref 116)] [] (ku (ku (ku ig17 7429 0) 7431 1) 7432 (ig17 7440)) ag17 qg17 rg17 (by rfl) ?_ | refine fo_go mi_k159 fz159_47_17_99 [(3, .int 0), (2, .int 1), (1, .int l1_8), (0, .ref 116)] [] (ku (ku (ku ig17 7429 0) 7431 1) 7432 (ig17 7440)) ag17 qg17 rg17 (by rfl) ?_ | refine ft_go mi_k159 17 99 [(3, .int 0), (2, .int 1), (1, .int l1_8), (0, .ref 116)] [] (ku (ku (ku ig17 7429 0) 7431 1) 7432 (ig17 7440)) ag17 qg17 rg17 (by rfl) ?_ | refine ft_goL mi_k159 17 99 [(3, .int 0), (2, .int 1), (1, .int l1_8), (0, .ref 116)] [] (by rfl) ?_
              have lp32 : ∀ (nz : Nat) (i32 : Nat → Int32) (a32 : Nat → List Int32) (q32 : Nat → List Int64) (r32 : Nat → Nat) (l3_32 : Int32), kG zw159_116_L99 (ku (ku (ku ig17 7429 0) 7431 1) 7432 (ig17 7440)) ag17 qg17 rg17 i32 a32 q32 r32 → ((0 : Int) ≤ l3_32.toInt) ∧ (l3_32.toInt ≤ (i32 7432).toInt) → kCp (ag17 124) (a32 120) l3_32.toInt.toNat → kCp (ag17 125) (a32 121) l3_32.toInt.toNat → kCp (ag17 126) (a32 122) l3_32.toInt.toNat → (((i32 7432).toInt - l3_32.toInt)).toNat < nz → ko 55 (mi_h159, mi_c159) P (99, [(3, .int l3_32), (2, .int 1), (1, .int l1_8), (0, .ref 116)], [], (0, 0), ks i32 a32 q32 r32) := by
                intro nz
                induction nz with
                | zero =>
                  intro _ _ _ _ _ _ _ _ _ _ hm
                  exact absurd hm (Nat.not_lt_zero _)
                | succ nz ih32 =>
                  intro i32 a32 q32 r32 l3_32 hL32 p32_0 O32_0 O32_1 O32_2 hm32
                  have fi32_7432 : ((0 : Int) ≤ (i32 7432).toInt) ∧ ((i32 7432).toInt ≤ 60) := hL32.I.1 7432
                  have efi32_7432 : (i32 7432).toInt = (ig17 7440).toInt := hL32.ti 7432 rfl
                  first | refine ft_goL mi_k159 3 104 [(3, .int l3_32), (2, .int 1), (1, .int l1_8), (0, .ref 116)] [.int (i32 7432), .int l3_32] (by rfl) ?_ | refine ft_go mi_k159 3 104 [(3, .int l3_32), (2, .int 1), (1, .int l1_8), (0, .ref 116)] [.int (i32 7432), .int l3_32] i32 a32 q32 r32 (by rfl) ?_
                  refine ft_ifS mi_k159 (decide ((i32 7432) ≤ l3_32)) 149 107 [] (by rfl) (fun c => ?_) (fun c => ?_)
                  ·
                    have c33 : (i32 7432).toInt ≤ l3_32.toInt := kd_le c; clear c
                    have hG34 := kG_call hJ31 hL32 (by decide +kernel)
                    first | refine ft_goL mi_k159 2 151 [(3, .int 0), (2, .int 1), (1, .int l1_8), (0, .ref 116)] [] (by rfl) ?_ | refine ft_go mi_k159 2 151 [(3, .int 0), (2, .int 1), (1, .int l1_8), (0, .ref 116)] [] i32 a32 q32 r32 (by rfl) ?_
                    have lp35 : ∀ (nz : Nat) (i35 : Nat → Int32) (a35 : Nat → List Int32) (q35 : Nat → List Int64) (r35 : Nat → Nat) (l3_35 : Int32), kG zw159_116_L151 i32 a32 q32 r32 i35 a35 q35 r35 → ((0 : Int) ≤ l3_35.toInt) ∧ (l3_35.toInt ≤ (i35 7439).toInt) → kCp (ag17 127) (a35 123) l3_35.toInt.toNat → (((i35 7439).toInt - l3_35.toInt)).toNat < nz → ko 55 (mi_h159, mi_c159) P (151, [(3, .int l3_35), (2, .int 1), (1, .int l1_8), (0, .ref 116)], [], (0, 0), ks i35 a35 q35 r35) := by
                      intro nz
                      induction nz with
                      | zero =>
                        intro _ _ _ _ _ _ _ _ hm
                        exact absurd hm (Nat.not_lt_zero _)
                      | succ nz ih35 =>
                        intro i35 a35 q35 r35 l3_35 hL35 p35_0 O35_0 hm35
                        have fi35_7439 : ((0 : Int) ≤ (i35 7439).toInt) ∧ ((i35 7439).toInt ≤ 200) := hL35.I.1 7439
                        have fi32_7439 : ((0 : Int) ≤ (i32 7439).toInt) ∧ ((i32 7439).toInt ≤ 200) := hG34.I.1 7439
                        have fig17_7439 : ((0 : Int) ≤ (ig17 7439).toInt) ∧ ((ig17 7439).toInt ≤ 200) := hJ31.I.1 7439
                        have efig17_7439 : (ig17 7439).toInt = (i8 7439).toInt := kg17.ti 7439 rfl
                        have efi32_7439 : (i32 7439).toInt = (ig17 7439).toInt := hL32.ti 7439 rfl
                        have efi35_7439 : (i35 7439).toInt = (i32 7439).toInt := hL35.ti 7439 rfl
                        first | refine ft_goL mi_k159 3 156 [(3, .int l3_35), (2, .int 1), (1, .int l1_8), (0, .ref 116)] [.int (i35 7439), .int l3_35] (by rfl) ?_ | refine ft_go mi_k159 3 156 [(3, .int l3_35), (2, .int 1), (1, .int l1_8), (0, .ref 116)] [.int (i35 7439), .int l3_35] i35 a35 q35 r35 (by rfl) ?_
                        refine ft_ifS mi_k159 (decide ((i35 7439) ≤ l3_35)) 177 159 [] (by rfl) (fun c => ?_) (fun c => ?_)
                        ·
                          have c36 : (i35 7439).toInt ≤ l3_35.toInt := kd_le c; clear c
                          have hG37 := kG_call hG34 hL35 (by decide +kernel)
                          first | refine ft_goS mi_k159 1 178 [.int 1] (by rfl) ?_ | refine ft_go mi_k159 1 178 [(3, .int l3_35), (2, .int 1), (1, .int l1_8), (0, .ref 116)] [.int 1] i35 a35 q35 r35 (by rfl) ?_
                          have fi35_7429 : ((0 : Int) ≤ (i35 7429).toInt) ∧ ((i35 7429).toInt ≤ 120) := hG37.I.1 7429
                          have fi32_7429 : ((0 : Int) ≤ (i32 7429).toInt) ∧ ((i32 7429).toInt ≤ 120) := hG34.I.1 7429
                          have efi32_7429 : (i32 7429).toInt = (0 : Int32).toInt := hL32.ti 7429 rfl
                          have efi35_7429 : (i35 7429).toInt = (i32 7429).toInt := hL35.ti 7429 rfl
                          have fi35_7432 : ((0 : Int) ≤ (i35 7432).toInt) ∧ ((i35 7432).toInt ≤ 60) := hG37.I.1 7432
                          have efi35_7432 : (i35 7432).toInt = (i32 7432).toInt := hL35.ti 7432 rfl
                          exact ft_ret mi_k159 (by rfl) (hP 1 _ _ _ _ hG37 ⟨(oq403 efi32_7429 efi35_7429 fi35_7429.1 koq0), (Eq.subst (motive := fun z : Int32 × rL => ((rOk nn z ∧ (1 : Int32) = 1 ∧ i35 7431 = 1 ∧ i35 7432 = z.2.2.1 ∧ kCp z.2.2.2.1 (a35 120) z.2.2.1.toInt.toNat ∧ kCp z.2.2.2.2.1 (a35 121) z.2.2.1.toInt.toNat ∧ kCp z.2.2.2.2.2 (a35 122) z.2.2.1.toInt.toNat ∧ kCp z.2.1.2.2 (a35 123) z.2.1.2.1.toInt.toNat) ∨ (¬ rOk nn z ∧ (1 : Int32) = -100 - z.2.1.1 ∧ i35 7431 = i 7431 ∧ i35 7432 = i 7432 ∧ a35 120 = a 120 ∧ a35 121 = a 121 ∧ a35 122 = a 122 ∧ a35 123 = a 123))) hD22 (Or.inl ⟨⟨(oq404 c16 p8_0.1 koq0), (oq405 c28 efi8_7429 efig17_7429 efig6_7429 hn1)⟩, rfl, (show i35 7431 = 1 from by first | rfl | (simp only [(show i35 7431 = i32 7431 from hL35.fi 7431 rfl), (show i32 7431 = (1 : Int32) from hL32.fi 7431 rfl)]; done) | (simp only [(show i35 7431 = i32 7431 from hL35.fi 7431 rfl), (show i32 7431 = (1 : Int32) from hL32.fi 7431 rfl)]; rfl)), (kj_v (oq408 efi32_7432 efi35_7432)), (kCp_from rfl (kCp_le O32_0 (hL35.fa 120 rfl) (kj_nle (oq406 c33 efi32_7432)))), (kCp_from rfl (kCp_le O32_1 (hL35.fa 121 rfl) (kj_nle (oq406 c33 efi32_7432)))), (kCp_from rfl (kCp_le O32_2 (hL35.fa 122 rfl) (kj_nle (oq406 c33 efi32_7432)))), (kCp_from rfl (kCp_le O35_0 rfl (kj_nle (oq407 c36 efi32_7439 efi35_7439))))⟩))⟩)
                        ·
                          have c38 : l3_35.toInt < (i35 7439).toInt := kd_leF c; clear c
                          first | refine fo_goS mi_k159 fz159_159_6_169 [.int l3_35, .ref 127, .int l3_35, .ref 123] (by rfl) ?_ | refine ft_go mi_k159 6 169 [(3, .int l3_35), (2, .int 1), (1, .int l1_8), (0, .ref 116)] [.int l3_35, .ref 127, .int l3_35, .ref 123] i35 a35 q35 r35 (by rfl) ?_
                          refine ko_iald3 mi_k159.1 (n := 200) (c := 200) (ax := (0, 0, 0, 0, 0)) (mi_k159.2 _ _ (by rfl)) (by rfl) (ksG127 _ _ _ _) (hL35.I.2.1 127) rfl (oq2 p35_0.1) (oq409 c38 fi35_7439.2) ?_
                          refine ko_iast3 mi_k159.1 (n := 200) (c := 200) (ax := (0, 0, 0, 0, 0)) (mi_k159.2 _ _ (by rfl)) (by rfl) (ksG123 _ _ _ _) (ksA123 _ _ _ _) (hL35.I.2.1 123) rfl (oq2 p35_0.1) (oq409 c38 fi35_7439.2) ?_
                          intro a39 ea39 fa39
                          have hJ39 := kG_a3 hL35 123 rfl ea39 fa39 (kd_bd _)
                          have s40 : (l3_35 + 1).toInt = l3_35.toInt + (1 : Int32).toInt := kd_add (oq115 p35_0.1 koq1) (oq410 c38 fi35_7439.2 koq1)
                          first | refine ft_goL mi_k159 2 151 [(3, .int (l3_35 + 1)), (2, .int 1), (1, .int l1_8), (0, .ref 116)] [] (by rfl) ?_ | refine ft_go mi_k159 2 151 [(3, .int (l3_35 + 1)), (2, .int 1), (1, .int l1_8), (0, .ref 116)] [] i35 a39 q35 r35 (by rfl) ?_
                          exact ih35 _ _ _ _ _ hJ39 (oq411 c38 p35_0.1 s40 koq1) (kCp_le (kCp_step (kCp_le O35_0 rfl (Nat.le_refl _)) (hL35.I.2.1 123) (oq2 p35_0.1) (oq409 c38 fi35_7439.2) (oq214 s40 koq1) ea39 (congrArg (fun z : List Int32 => z.getD l3_35.toNatClampNeg 0) ((hL35.fa 127 rfl).trans (hL32.fa 127 rfl)))) rfl (Nat.le_refl _)) (kj_meas (oq412 s40 koq1) (oq413 c38) hm35)
                    have fi32_7439 : ((0 : Int) ≤ (i32 7439).toInt) ∧ ((i32 7439).toInt ≤ 200) := hG34.I.1 7439
                    have fig17_7439 : ((0 : Int) ≤ (ig17 7439).toInt) ∧ ((ig17 7439).toInt ≤ 200) := hJ31.I.1 7439
                    have efig17_7439 : (ig17 7439).toInt = (i8 7439).toInt := kg17.ti 7439 rfl
                    have efi32_7439 : (i32 7439).toInt = (ig17 7439).toInt := hL32.ti 7439 rfl
                    exact lp35 _ _ _ _ _ _ (kG_self _ hG34.I hG34.R) (oq414 fi32_7439.1 koq0) (kCp_zero kn0) (Nat.lt_succ_self _)
                  ·
                    have c41 : l3_32.toInt < (i32 7432).toInt := kd_leF c; clear c
                    first | refine fo_goS mi_k159 fz159_107_6_117 [.int l3_32, .ref 124, .int l3_32, .ref 120] (by rfl) ?_ | refine ft_go mi_k159 6 117 [(3, .int l3_32), (2, .int 1), (1, .int l1_8), (0, .ref 116)] [.int l3_32, .ref 124, .int l3_32, .ref 120] i32 a32 q32 r32 (by rfl) ?_
                    refine ko_iald3 mi_k159.1 (n := 61) (c := 61) (ax := (0, 0, 0, 0, 0)) (mi_k159.2 _ _ (by rfl)) (by rfl) (ksG124 _ _ _ _) (hL32.I.2.1 124) rfl (oq2 p32_0.1) (oq415 c41 fi32_7432.2) ?_
                    refine ko_iast3 mi_k159.1 (n := 60) (c := 60) (ax := (0, 0, 0, 0, 0)) (mi_k159.2 _ _ (by rfl)) (by rfl) (ksG120 _ _ _ _) (ksA120 _ _ _ _) (hL32.I.2.1 120) rfl (oq2 p32_0.1) (oq416 c41 fi32_7432.2) ?_
                    intro a42 ea42 fa42
                    have hJ42 := kG_a3 hL32 120 rfl ea42 fa42 (kd_bd _)
                    first | refine fo_goS mi_k159 fz159_119_6_129 [.int l3_32, .ref 125, .int l3_32, .ref 121] (by rfl) ?_ | refine ft_go mi_k159 6 129 [(3, .int l3_32), (2, .int 1), (1, .int l1_8), (0, .ref 116)] [.int l3_32, .ref 125, .int l3_32, .ref 121] i32 a42 q32 r32 (by rfl) ?_
                    refine ko_iald3 mi_k159.1 (n := 61) (c := 61) (ax := (0, 0, 0, 0, 0)) (mi_k159.2 _ _ (by rfl)) (by rfl) (ksG125 _ _ _ _) (hJ42.I.2.1 125) rfl (oq2 p32_0.1) (oq415 c41 fi32_7432.2) ?_
                    refine ko_iast3 mi_k159.1 (n := 60) (c := 60) (ax := (0, 0, 0, 0, 0)) (mi_k159.2 _ _ (by rfl)) (by rfl) (ksG121 _ _ _ _) (ksA121 _ _ _ _) (hJ42.I.2.1 121) rfl (oq2 p32_0.1) (oq416 c41 fi32_7432.2) ?_
                    intro a43 ea43 fa43
                    have hJ43 := kG_a3 hJ42 121 rfl ea43 fa43 (kd_bd _)
                    first | refine fo_goS mi_k159 fz159_131_6_141 [.int l3_32, .ref 126, .int l3_32, .ref 122] (by rfl) ?_ | refine ft_go mi_k159 6 141 [(3, .int l3_32), (2, .int 1), (1, .int l1_8), (0, .ref 116)] [.int l3_32, .ref 126, .int l3_32, .ref 122] i32 a43 q32 r32 (by rfl) ?_
                    refine ko_iald3 mi_k159.1 (n := 61) (c := 61) (ax := (0, 0, 0, 0, 0)) (mi_k159.2 _ _ (by rfl)) (by rfl) (ksG126 _ _ _ _) (hJ43.I.2.1 126) rfl (oq2 p32_0.1) (oq415 c41 fi32_7432.2) ?_
                    refine ko_iast3 mi_k159.1 (n := 60) (c := 60) (ax := (0, 0, 0, 0, 0)) (mi_k159.2 _ _ (by rfl)) (by rfl) (ksG122 _ _ _ _) (ksA122 _ _ _ _) (hJ43.I.2.1 122) rfl (oq2 p32_0.1) (oq416 c41 fi32_7432.2) ?_
                    intro a44 ea44 fa44
                    have hJ44 := kG_a3 hJ43 122 rfl ea44 fa44 (kd_bd _)
                    have s45 : (l3_32 + 1).toInt = l3_32.toInt + (1 : Int32).toInt := kd_add (oq115 p32_0.1 koq1) (oq417 c41 fi32_7432.2 koq1)
                    first | refine ft_goL mi_k159 2 99 [(3, .int (l3_32 + 1)), (2, .int 1), (1, .int l1_8), (0, .ref 116)] [] (by rfl) ?_ | refine ft_go mi_k159 2 99 [(3, .int (l3_32 + 1)), (2, .int 1), (1, .int l1_8), (0, .ref 116)] [] i32 a44 q32 r32 (by rfl) ?_
                    exact ih32 _ _ _ _ _ hJ44 (oq411 c41 p32_0.1 s45 koq1) (kCp_le (kCp_step (kCp_le O32_0 rfl (Nat.le_refl _)) (hL32.I.2.1 120) (oq2 p32_0.1) (oq416 c41 fi32_7432.2) (oq214 s45 koq1) ea42 (congrArg (fun z : List Int32 => z.getD l3_32.toNatClampNeg 0) (hL32.fa 124 rfl))) ((fa44 120 (by decide)).trans (fa43 120 (by decide))) (Nat.le_refl _)) (kCp_le (kCp_step (kCp_le O32_1 (fa42 121 (by decide)) (Nat.le_refl _)) (hJ42.I.2.1 121) (oq2 p32_0.1) (oq416 c41 fi32_7432.2) (oq214 s45 koq1) ea43 (congrArg (fun z : List Int32 => z.getD l3_32.toNatClampNeg 0) ((fa42 125 (by decide)).trans (hL32.fa 125 rfl)))) (fa44 121 (by decide)) (Nat.le_refl _)) (kCp_le (kCp_step (kCp_le O32_2 ((fa43 122 (by decide)).trans (fa42 122 (by decide))) (Nat.le_refl _)) (hJ43.I.2.1 122) (oq2 p32_0.1) (oq416 c41 fi32_7432.2) (oq214 s45 koq1) ea44 (congrArg (fun z : List Int32 => z.getD l3_32.toNatClampNeg 0) (((fa43 126 (by decide)).trans (fa42 126 (by decide))).trans (hL32.fa 126 rfl)))) rfl (Nat.le_refl _)) (kj_meas (oq412 s45 koq1) (oq413 c41) hm32)
              exact lp32 _ _ _ _ _ _ (kG_self _ hJ31.I hJ31.R) (oq414 fig17_7440.1 koq0) (kCp_zero kn0) (kCp_zero kn0) (kCp_zero kn0) (Nat.lt_succ_self _)
        ·
          have c46 : vg17.toInt ≠ (0 : Int32).toInt := kd_eqF c; clear c
          first | refine ft_goS mi_k159 1 39 [.ref 116] (by rfl) ?_ | refine ft_go mi_k159 1 39 [(1, .int l1_8), (0, .ref 116)] [.ref 116] ig17 ag17 qg17 rg17 (by rfl) ?_
          have efig17_7438 : (ig17 7438).toInt = (i8 7438).toInt := kg17.ti 7438 rfl
          have fig17_7439 : ((0 : Int) ≤ (ig17 7439).toInt) ∧ ((ig17 7439).toInt ≤ 200) := hGg17.I.1 7439
          have efig17_7439 : (ig17 7439).toInt = (i8 7439).toInt := kg17.ti 7439 rfl
          have fig17_7429 : ((0 : Int) ≤ (ig17 7429).toInt) ∧ ((ig17 7429).toInt ≤ 120) := hGg17.I.1 7429
          have efig17_7429 : (ig17 7429).toInt = (i8 7429).toInt := kg17.ti 7429 rfl
          have fig17_7440 : ((0 : Int) ≤ (ig17 7440).toInt) ∧ ((ig17 7440).toInt ≤ 61) := hGg17.I.1 7440
          have efig17_7440 : (ig17 7440).toInt = (i8 7440).toInt := kg17.ti 7440 rfl
          refine ko_callI mi_k159.1 (pc := 39) (ls := [(1, .int l1_8), (0, .ref 116)]) (st := [.ref 116]) (h := ks ig17 ag17 qg17 rg17) (i := (.invokevirtual 211, 3, 158, 0, 9, 0, 396)) (mi_k159.2 _ _ (by rfl)) (ft_invS mi_pq158 (by rfl)) (cy := mi_c158) mi_pq158 rfl (ke158_116 hGg17.I hGg17.R (oq418 c16 efig17_7429 efig17_7438 efig17_7439 p8_0.1 p8_0.2 p8_1 p8_2 z18.1 koq0 koq59) (oq419 c16 c46 efig17_7440 p8_0.1 p8_0.2 p8_1 z18.1 koq0 koq59) t nn ((((kg17.fa 119 rfl).trans (hL8.fa 119 rfl)).trans (kg6.fa 119 rfl)).trans hT) (((kg17.fi 7429 rfl).trans ((hL8.fi 7429 rfl).trans (kg6.fi 7429 rfl))).trans hN) hX) (by decide) ?_
          intro vg47 ig47 ag47 qg47 rg47 kg47 hg47
          have hGg47 := kG_call hGg17 kg47 (by decide +kernel)
          obtain ⟨hg47, og47⟩ := hg47
          have fig47_7437 : ((0 : Int) ≤ (ig47 7437).toInt) ∧ ((ig47 7437).toInt ≤ 120) := hGg47.I.1 7437
          have fig47_7429 : ((0 : Int) ≤ (ig47 7429).toInt) ∧ ((ig47 7429).toInt ≤ 120) := hGg47.I.1 7429
          have efig47_7429 : (ig47 7429).toInt = (ig17 7429).toInt := kg47.ti 7429 rfl
          have fig47_7439 : ((0 : Int) ≤ (ig47 7439).toInt) ∧ ((ig47 7439).toInt ≤ 200) := hGg47.I.1 7439
          have fig47_7440 : ((0 : Int) ≤ (ig47 7440).toInt) ∧ ((ig47 7440).toInt ≤ 61) := hGg47.I.1 7440
          have z48 : ((ig47 7437).toInt ≤ (ig47 7429).toInt) ∧ ((ig17 7437).toInt ≤ (ig47 7437).toInt) ∧ ((0 : Int) ≤ vg47.toInt) ∧ (vg47.toInt ≤ 1) ∧ (((vg47.toInt = 1) → (((ig47 7438).toInt = 0) ∧ ((ig47 7439).toInt ≤ (ig47 7437).toInt) ∧ ((ig47 7437).toInt ≤ (ig47 7429).toInt) ∧ ((2 * (ig47 7440).toInt) ≤ ((ig47 7437).toInt + 1)) ∧ ((ig47 7440).toInt = ((ig17 7440).toInt + 1))))) := hg47
          first | refine ft_goL mi_k159 2 25 [(1, .int vg47), (0, .ref 116)] [] (by rfl) ?_ | refine ft_go mi_k159 2 25 [(1, .int vg47), (0, .ref 116)] [] ig47 ag47 qg47 rg47 (by rfl) ?_
          have tk17 : (vg17, (ig17 7437, ig17 7439, ag17 127)) = rTk t nn 59 (i8 7437, i8 7439, a8 127) := tTkR og17 (kT2 (kg17.fi 7439 rfl) (kg17.fa 127 rfl))
          have o47 := og47
          rw [kg17.fi 7440 rfl, kg17.fa 124 rfl, kg17.fa 125 rfl, kg17.fa 126 rfl] at o47
          exact ih8 _ _ _ _ _ hGg47 (oq420 z48.2.2.1 z48.2.2.2.1) (oq421 z48.1 z48.2.2.2.1 z48.2.2.2.2) (oq222 z48.1) (rGl_again O8_0 (oq151 c16 p8_0.1 koq0) tk17 (oq422 c46 z18.1 koq0 koq59) (oq423 c46 efi8_7429 efig17_7429 efig47_7429 efig6_7429 hn1 z18.1 z48.1 z48.2.1 koq0 koq59) o47 (oq424 c46 z18.1 z48.2.1 koq0 koq59)) (kj_meas (oq425 c16 c46 efig17_7429 efig47_7429 p8_0.1 z18.1 z48.2.1 z48.2.2.2.1 koq0 koq59) (oq426 c16 fi8_7429.1 fi8_7437.2 p8_0.1 koq0) hm8)
  exact lp8 _ _ _ _ _ _ (kG_self _ hGg6.I hGg6.R) (oq420 z7.2.2.1 z7.2.2.2.1) (oq427 z7.1 z7.2.2.2.1 z7.2.2.2.2 koq0) (oq222 z7.1) (rGl_begin og6 (oq2 fig6_7437.1)) (Nat.lt_succ_self _)
end
section
/-! CLASS AND REFERENCE READ ALIKE: what a code of the reference is in the class; what is added to both -/
def eSg (x : Int32) : Int32 := if x.toInt = 6 then 124 else if x.toInt = 7 then 38 else if x.toInt = 8 then 60 else if x.toInt = 9 then 61 else if x.toInt = 10 then 62 else if x.toInt = 11 then 43 else if x.toInt = 12 then 45 else if x.toInt = 13 then 42 else if x.toInt = 14 then 47 else if x.toInt = 15 then 37 else if x.toInt = 16 then 33 else 126
def eSt (x : Int32) : Int32 := if 18 ≤ x.toInt then 0 else if x.toInt ≤ 5 then 1 else eSg x
def eWi (x : Int32) : Int32 := if 18 ≤ x.toInt then x - 18 else if x.toInt ≤ 5 then x else 0
def cAt (st wi : List Int32) (p : Nat) (d : List Int32) : Prop := ∀ j : Nat, j < d.length → st.getD (p + j) 0 = eSt (d.getD j 0) ∧ wi.getD (p + j) 0 = eWi (d.getD j 0)
def rAt (L : List Int32) (p : Nat) (d : List Int32) : Prop := ∀ j : Nat, j < d.length → L.getD (p + j) 0 = d.getD j 0
def cSeg (A A1 : cA) (d : List Int32) : Prop := A1.1.length = 121 ∧ A1.2.1.length = 121 ∧ A1.2.2.toInt = A.2.2.toInt + d.length ∧ (∀ j : Nat, (j : Int) < A.2.2.toInt → A1.1.getD j 0 = A.1.getD j 0 ∧ A1.2.1.getD j 0 = A.2.1.getD j 0) ∧ cAt A1.1 A1.2.1 A.2.2.toInt.toNat d
def rSeg (A A1 : Int32 × List Int32) (d : List Int32) : Prop := A1.2.length = 200 ∧ A1.1.toInt = A.1.toInt + d.length ∧ (∀ j : Nat, (j : Int) < A.1.toInt → A1.2.getD j 0 = A.2.getD j 0) ∧ rAt A1.2 A.1.toInt.toNat d
theorem gD_l {d e : List Int32} {j : Nat} (h : j < d.length) : (d ++ e).getD j 0 = d.getD j 0 := by
  rw [List.getD_eq_getElem?_getD, List.getD_eq_getElem?_getD, List.getElem?_append_left h]
theorem gD_r {d e : List Int32} {j : Nat} (h : d.length ≤ j) : (d ++ e).getD j 0 = e.getD (j - d.length) 0 := by
  rw [List.getD_eq_getElem?_getD, List.getD_eq_getElem?_getD, List.getElem?_append_right h]
theorem cSeg_app {A A1 A2 : cA} {d e : List Int32} (h0 : 0 ≤ A.2.2.toInt) (h : cSeg A A1 d) (g : cSeg A1 A2 e) : cSeg A A2 (d ++ e) := by
  obtain ⟨h1, h2, h3, h4, h5⟩ := h
  obtain ⟨g1, g2, g3, g4, g5⟩ := g
  refine ⟨g1, g2, by rw [List.length_append]; omega, fun j hj => ?_, fun j hj => ?_⟩
  · have a := g4 j (by omega)
    have b := h4 j hj
    exact ⟨a.1.trans b.1, a.2.trans b.2⟩
  · rw [List.length_append] at hj
    by_cases c : j < d.length
    · have a := g4 (A.2.2.toInt.toNat + j) (by omega)
      have b := h5 j c
      rw [gD_l c]
      exact ⟨a.1.trans b.1, a.2.trans b.2⟩
    · have a := g5 (j - d.length) (by omega)
      rw [show A1.2.2.toInt.toNat + (j - d.length) = A.2.2.toInt.toNat + j by omega] at a
      rw [gD_r (by omega)]
      exact a
theorem rSeg_app {A A1 A2 : Int32 × List Int32} {d e : List Int32} (h0 : 0 ≤ A.1.toInt) (h : rSeg A A1 d) (g : rSeg A1 A2 e) : rSeg A A2 (d ++ e) := by
  obtain ⟨h1, h3, h4, h5⟩ := h
  obtain ⟨g1, g3, g4, g5⟩ := g
  refine ⟨g1, by rw [List.length_append]; omega, fun j hj => (g4 j (by omega)).trans (h4 j hj), fun j hj => ?_⟩
  rw [List.length_append] at hj
  by_cases c : j < d.length
  · rw [gD_l c]
    exact (g4 (A.1.toInt.toNat + j) (by omega)).trans (h5 j c)
  · have a := g5 (j - d.length) (by omega)
    rw [show A1.1.toInt.toNat + (j - d.length) = A.1.toInt.toNat + j by omega] at a
    rw [gD_r (by omega)]
    exact a
theorem gD_set {l : List Int32} {j m : Nat} {x : Int32} (h : j < l.length) : (l.set j x).getD m 0 = if m = j then x else l.getD m 0 := kset_gI h
theorem cSeg_one {A : cA} {o w x : Int32} (h0 : 0 ≤ A.2.2.toInt) (h1 : A.2.2.toInt ≤ 120) (hl : A.1.length = 121) (hl2 : A.2.1.length = 121) (ho : o = eSt x) (hw : w = eWi x) : cSeg A (lAdd o w A) [x] := by
  have e : lAdd o w A = (A.1.set A.2.2.toNatClampNeg o, A.2.1.set A.2.2.toNatClampNeg w, A.2.2 + 1) := if_pos h1
  have t := Int32.toNat_toInt A.2.2
  have k1 : (1 : Int32).toInt = 1 := by decide
  have ea : (A.2.2 + 1).toInt = A.2.2.toInt + 1 := by rw [kd_add (by omega) (by omega), k1]
  rw [e]
  refine ⟨by simpa using hl, by simpa using hl2, ea, fun j hj => ?_, fun j hj => ?_⟩
  · dsimp only
    rw [gD_set (by omega), gD_set (by omega), if_neg (by omega), if_neg (by omega)]
    exact ⟨rfl, rfl⟩
  · have hj : j < 1 := hj
    have hz : j = 0 := by omega
    subst hz
    dsimp only
    rw [gD_set (by omega), gD_set (by omega), if_pos (by omega), if_pos (by omega), ho, hw]
    exact ⟨rfl, rfl⟩
theorem rSeg_one {A : Int32 × List Int32} {x : Int32} (h0 : 0 ≤ A.1.toInt) (h1 : A.1.toInt ≤ 199) (hl : A.2.length = 200) : rSeg A (A.1 + 1, A.2.set A.1.toNatClampNeg x) [x] := by
  have t := Int32.toNat_toInt A.1
  have k1 : (1 : Int32).toInt = 1 := by decide
  have ea : (A.1 + 1).toInt = A.1.toInt + 1 := by rw [kd_add (by omega) (by omega), k1]
  refine ⟨by simpa using hl, ea, fun j hj => ?_, fun j hj => ?_⟩
  · dsimp only
    rw [gD_set (by omega), if_neg (by omega)]
  · have hj : j < 1 := hj
    have hz : j = 0 := by omega
    subst hz
    dsimp only
    rw [gD_set (by omega), if_pos (by omega)]
    rfl
/-- how high the stack is behind a code -/
def dHt : List Int32 → Nat → Option Nat
  | [], k => some k
  | x :: d, k => (kEff x k).bind (dHt d)
theorem dHt_app : ∀ (d e : List Int32) (k : Nat), dHt (d ++ e) k = (dHt d k).bind (dHt e)
  | [], e, k => rfl
  | x :: d, e, k => by
    show (kEff x k).bind (dHt (d ++ e)) = ((kEff x k).bind (dHt d)).bind (dHt e)
    cases kEff x k with
    | none => rfl
    | some z => exact dHt_app d e z
theorem dHt_shift (h : Nat) : ∀ {d : List Int32} {k k1 : Nat}, dHt d k = some k1 → dHt d (h + k) = some (h + k1)
  | [], k, k1, e => by cases e; rfl
  | x :: d, k, k1, e => by
    have e : (kEff x k).bind (dHt d) = some k1 := e
    show (kEff x (h + k)).bind (dHt d) = some (h + k1)
    cases e1 : kEff x k with
    | none => rw [e1] at e; cases e
    | some z =>
      rw [e1] at e
      rw [kEff_shift h e1]
      exact dHt_shift h e
theorem dHt_bin {d e : List Int32} {x : Int32} (hd : dHt d 0 = some 1) (he : dHt e 0 = some 1) (h0 : 6 ≤ x.toInt) (h1 : x.toInt ≤ 15) : dHt (d ++ (e ++ [x])) 0 = some 1 := by
  rw [dHt_app, hd, Option.bind_some, dHt_app, dHt_shift 1 he, Option.bind_some]
  show (kEff x (1 + 1)).bind (dHt []) = some 1
  rw [kEff_bin h0 h1 (by decide)]
  rfl
theorem dHt_un {d : List Int32} {x : Int32} (hd : dHt d 0 = some 1) (h : x.toInt = 16 ∨ x.toInt = 17) : dHt (d ++ [x]) 0 = some 1 := by
  rw [dHt_app, hd, Option.bind_some]
  show (kEff x 1).bind (dHt []) = some 1
  rw [kEff_un h (by decide)]
  rfl
theorem dHt_push {x : Int32} (h : 18 ≤ x.toInt ∨ (0 ≤ x.toInt ∧ x.toInt ≤ 5)) : dHt [x] 0 = some 1 := by
  show (kEff x 0).bind (dHt []) = some 1
  rw [kEff_push 0 h]
  rfl
/-- both stand alike, and neither has more code than it has read -/
def sI (n : Int32) (S : cS) (Z : rS) : Prop := S.1 = Z.1 ∧ S.2.1.toInt = 0 ∧ (0 ≤ S.1.toInt ∧ S.1.toInt ≤ n.toInt) ∧ (0 ≤ S.2.2.2.2.toInt ∧ S.2.2.2.2.toInt ≤ S.1.toInt) ∧ (0 ≤ Z.2.1.toInt ∧ Z.2.1.toInt ≤ S.1.toInt) ∧ S.2.2.1.length = 121 ∧ S.2.2.2.1.length = 121 ∧ Z.2.2.length = 200
/-- from S, Z both came to T, Y, and added d -/
def sG (n : Int32) (S : cS) (Z : rS) (T : cS) (Y : rS) (d : List Int32) : Prop := sI n T Y ∧ S.1.toInt + d.length ≤ T.1.toInt ∧ S.1.toInt < T.1.toInt ∧ cSeg S.2.2 T.2.2 d ∧ rSeg Z.2 Y.2 d ∧ dHt d 0 = some 1
/-- faulty there -/
def sB (T : cS) (Y : rS) : Prop := T.1 = Y.1 ∧ T.2.1.toInt ≠ 0
def sR (n : Int32) (S : cS) (Z : rS) (T : cS) (X : Int32 × rS) : Prop := (X.1.toInt = 0 ∧ sB T X.2) ∨ (¬ (X.1.toInt = 0) ∧ ∃ d, sG n S Z T X.2 d)
def Sim (n : Int32) (f : cS → cS) (g : rS → Int32 × rS) : Prop := ∀ S Z, sI n S Z → sR n S Z (f S) (g Z)
theorem cHr_0 {t : List Int32} {n p f : Int32} (h : f.toInt = 0) : cHr t n p f = cHr t n p 0 := by
  have k0 : (0 : Int32).toInt = 0 := by decide
  unfold cHr
  rw [h, k0]
theorem cHr_1 {t : List Int32} {n p f : Int32} (h : f.toInt ≠ 0) : cHr t n p f = -1 := if_neg (fun z => h z.1)
theorem kp1 {p n : Int32} (h0 : 0 ≤ p.toInt) (h : p.toInt < n.toInt) : (p + 1).toInt = p.toInt + 1 := by
  have k1 : (1 : Int32).toInt = 1 := by decide
  have := kd_bd n
  rw [kd_add (by omega) (by omega), k1]
theorem sI_step {n : Int32} {S : cS} {Z : rS} (h : sI n S Z) (hp : S.1.toInt < n.toInt) : sI n (cAt1 S) (rAt1 Z) := by
  obtain ⟨h1, h2, h3, h4, h5, h6⟩ := h
  have e := kp1 h3.1 hp
  refine ⟨?_, h2, ⟨?_, ?_⟩, ⟨h4.1, ?_⟩, ⟨h5.1, ?_⟩, h6⟩
  · show S.1 + 1 = Z.1 + 1
    rw [h1]
  · show 0 ≤ (S.1 + 1).toInt
    omega
  · show (S.1 + 1).toInt ≤ n.toInt
    omega
  · show S.2.2.2.2.toInt ≤ (S.1 + 1).toInt
    omega
  · show Z.2.1.toInt ≤ (S.1 + 1).toInt
    omega
theorem sG_at1 {n : Int32} {S : cS} {Z : rS} {T : cS} {Y : rS} {d : List Int32} (h3 : 0 ≤ S.1.toInt) (hp : S.1.toInt < n.toInt) (h : sG n (cAt1 S) (rAt1 Z) T Y d) : sI n T Y ∧ S.1.toInt + 1 + d.length ≤ T.1.toInt ∧ S.1.toInt + 1 < T.1.toInt ∧ cSeg S.2.2 T.2.2 d ∧ rSeg Z.2 Y.2 d ∧ dHt d 0 = some 1 := by
  obtain ⟨a, b, c, r⟩ := h
  have e := kp1 h3 hp
  have b : (S.1 + 1).toInt + d.length ≤ T.1.toInt := b
  have c : (S.1 + 1).toInt < T.1.toInt := c
  exact ⟨a, by omega, by omega, r⟩
/-- one code more, where something was read -/
theorem sI_add {n : Int32} {T : cS} {Y : rS} {o w x : Int32} (hn : n.toInt ≤ 120) (h : sI n T Y) (hc : T.2.2.2.2.toInt + 1 ≤ T.1.toInt) (hr : Y.2.1.toInt + 1 ≤ T.1.toInt) (ho : o = eSt x) (hw : w = eWi x) : sI n (cAdd o w T) (rCod x Y) ∧ cSeg T.2.2 (cAdd o w T).2.2 [x] ∧ rSeg Y.2 (rCod x Y).2 [x] := by
  obtain ⟨h1, h2, h3, h4, h5, h6, h7, h8⟩ := h
  have c1 : cSeg T.2.2 (cAdd o w T).2.2 [x] := cSeg_one h4.1 (by omega) h6 h7 ho hw
  have r1 : rSeg Y.2 (rCod x Y).2 [x] := rSeg_one h5.1 (by omega) h8
  refine ⟨⟨h1, h2, h3, ⟨?_, ?_⟩, ⟨?_, ?_⟩, c1.1, c1.2.1, r1.1⟩, c1, r1⟩
  · rw [c1.2.2.1]; simp; omega
  · rw [c1.2.2.1]; simp; exact hc
  · rw [r1.2.1]; simp; omega
  · rw [r1.2.1]; simp; exact hr
/-- d, then behind a sign e, then an operation of two -/
theorem sG_bin {n : Int32} {S : cS} {Z : rS} {T : cS} {Y : rS} {U : cS} {V : rS} {d e : List Int32} {o x : Int32} (hn : n.toInt ≤ 120) (hS : sI n S Z) (h : sG n S Z T Y d) (hp : T.1.toInt < n.toInt) (g : sG n (cAt1 T) (rAt1 Y) U V e) (h0 : 6 ≤ x.toInt) (h1 : x.toInt ≤ 15) (ho : o = eSt x) (hw : 0 = eWi x) : sG n S Z (cAdd o 0 U) (rCod x V) (d ++ (e ++ [x])) := by
  obtain ⟨a1, a2, a3, a4, a5, a6⟩ := h
  obtain ⟨b1, b2, b3, b4, b5, b6⟩ := sG_at1 a1.2.2.1.1 hp g
  have hs := hS.2.2.2.1
  have hz := hS.2.2.2.2.1
  have l1 := a4.2.2.1
  have l2 := b4.2.2.1
  have l3 := a5.2.1
  have l4 := b5.2.1
  obtain ⟨i1, c1, r1⟩ := sI_add hn b1 (o := o) (w := 0) (x := x) (by omega) (by omega) ho hw
  have e1 : (cAdd o 0 U).1 = U.1 := rfl
  refine ⟨i1, ?_, ?_, cSeg_app hs.1 a4 (cSeg_app (by omega) b4 c1), rSeg_app hz.1 a5 (rSeg_app (by omega) b5 r1), dHt_bin a6 b6 h0 h1⟩
  · rw [e1, List.length_append, List.length_append]
    simp
    omega
  · rw [e1]; omega
end
section
section SIM
variable {t : List Int32} {n : Int32}
def OpR (o : Int32 → Bool) (q : Int32 → Int32) : Prop := ∀ x : Int32, (o x = true → 0 ≤ x.toInt ∧ 6 ≤ (q x).toInt ∧ (q x).toInt ≤ 15 ∧ x = eSt (q x) ∧ 0 = eWi (q x)) ∧ (o x = false → (q x).toInt < 0)
theorem kv42 {x : Int32} {b : Int32} (h : x.toInt = b.toInt) : x = b := Int32.toInt_inj.mp h
theorem opR_mul : OpR oMul opMul := fun x => by
  refine ⟨fun h => ?_, fun h => ?_⟩
  · rcases of_decide_eq_true h with h | h | h
    · have e : x = 42 := kv42 (h.trans (by decide)); subst e; decide
    · have e : x = 47 := kv42 (h.trans (by decide)); subst e; decide
    · have e : x = 37 := kv42 (h.trans (by decide)); subst e; decide
  · have h := of_decide_eq_false h
    unfold opMul
    rw [if_neg (fun z => h (Or.inl z)), if_neg (fun z => h (Or.inr (Or.inl z))), if_neg (fun z => h (Or.inr (Or.inr z)))]
    decide
theorem opR_sum : OpR oSum opSum := fun x => by
  refine ⟨fun h => ?_, fun h => ?_⟩
  · rcases of_decide_eq_true h with h | h
    · have e : x = 43 := kv42 (h.trans (by decide)); subst e; decide
    · have e : x = 45 := kv42 (h.trans (by decide)); subst e; decide
  · have h := of_decide_eq_false h
    unfold opSum
    rw [if_neg (fun z => h (Or.inl z)), if_neg (fun z => h (Or.inr z))]
    decide
theorem opR_cmp : OpR oCmp opCmp := fun x => by
  refine ⟨fun h => ?_, fun h => ?_⟩
  · rcases of_decide_eq_true h with h | h | h
    · have e : x = 60 := kv42 (h.trans (by decide)); subst e; decide
    · have e : x = 61 := kv42 (h.trans (by decide)); subst e; decide
    · have e : x = 62 := kv42 (h.trans (by decide)); subst e; decide
  · have h := of_decide_eq_false h
    unfold opCmp
    rw [if_neg (fun z => h (Or.inl z)), if_neg (fun z => h (Or.inr (Or.inl z))), if_neg (fun z => h (Or.inr (Or.inr z)))]
    decide
theorem cOf_t {o : Int32 → Bool} {S : cS} (h : o (cHr t n S.1 S.2.1) = true) : cOf t n o S = (cHr t n S.1 S.2.1, cAt1 S) := by
  unfold cOf cOfP
  rw [if_pos h]
  rfl
theorem cOf_f {o : Int32 → Bool} {S : cS} (h : o (cHr t n S.1 S.2.1) = false) : cOf t n o S = (-1, S) := by
  unfold cOf cOfP
  rw [if_neg (by rw [h]; exact Bool.false_ne_true)]
theorem cTk_t {c : Int32} {S : cS} (h : (cHr t n S.1 S.2.1).toInt = c.toInt) : cTk t n c S = (1, cAt1 S) := by
  unfold cTk cTkP
  rw [if_pos h]
  rfl
theorem cTk_f {c : Int32} {S : cS} (h : ¬ ((cHr t n S.1 S.2.1).toInt = c.toInt)) : cTk t n c S = (0, S) := by
  unfold cTk cTkP
  rw [if_neg h]
theorem rTk_t {c : Int32} {Z : rS} (h : (rHr t n Z).toInt = c.toInt) : rTk t n c Z = (1, rAt1 Z) := by
  have h : (cHr t n Z.1 0).toInt = c.toInt := h
  unfold rTk cTkP
  rw [if_pos h]
  rfl
theorem rTk_f {c : Int32} {Z : rS} (h : ¬ ((rHr t n Z).toInt = c.toInt)) : rTk t n c Z = (0, Z) := by
  have h : ¬ ((cHr t n Z.1 0).toInt = c.toInt) := h
  unfold rTk cTkP
  rw [if_neg h]
theorem sI_hr {S : cS} {Z : rS} (h : sI n S Z) : rHr t n Z = cHr t n S.1 S.2.1 := by
  unfold rHr
  rw [← h.1]
  exact (cHr_0 h.2.1).symm
theorem opR_m1 {o : Int32 → Bool} {q : Int32 → Int32} (ho : OpR o q) : o (-1) = false := by
  cases e : o (-1) with
  | false => rfl
  | true => exact absurd ((ho (-1)).1 e).1 (by decide)
theorem cLpS_no (sub : cS → cS) (o : Int32 → Bool) (k : Nat) (S : cS) : cLpS t n sub o k (-1, S) = S := by
  cases k with
  | zero => rfl
  | succ k => exact if_pos (by decide : (-1 : Int32).toInt = -1)
theorem cLpS_b {sub : cS → cS} {o : Int32 → Bool} {q : Int32 → Int32} (ho : OpR o q) (k : Nat) {U : cS} (hb : U.2.1.toInt ≠ 0) : cLpS t n sub o k (cOf t n o U) = U := by
  rw [cOf_f (by rw [cHr_1 hb]; exact opR_m1 ho), cLpS_no]
theorem sim_out {sub : cS → cS} {sub' : rS → Int32 × rS} {o : Int32 → Bool} {q : Int32 → Int32} (ho : OpR o q) {S : cS} {Z : rS} (k k' : Nat) {T : cS} {Y : rS} {d : List Int32} (h : sG n S Z T Y d) (e : o (cHr t n T.1 T.2.1) = false) : sR n S Z (cLpS t n sub o k (cOf t n o T)) (rLpS t n sub' q k' Y) := by
  have hx := sI_hr (t := t) h.1
  have e2 : rLpS t n sub' q k' Y = (1, Y) := by
    cases k' with
    | zero => rfl
    | succ k' =>
      unfold rLpS
      rw [hx, if_pos ((ho _).2 e)]
  rw [cOf_f e, cLpS_no, e2]
  exact Or.inr ⟨(by decide : ¬ ((1 : Int32).toInt = 0)), d, h⟩
theorem sim_loop {sub : cS → cS} {sub' : rS → Int32 × rS} {o : Int32 → Bool} {q : Int32 → Int32} (hn : n.toInt ≤ 120) (ho : OpR o q) (hs : Sim n sub sub') {S : cS} {Z : rS} (hS : sI n S Z) (k : Nat) : ∀ (k' : Nat) (T : cS) (Y : rS) (d : List Int32), sG n S Z T Y d → (n.toInt - T.1.toInt).toNat ≤ k → (n.toInt - T.1.toInt).toNat ≤ k' → sR n S Z (cLpS t n sub o k (cOf t n o T)) (rLpS t n sub' q k' Y) := by
  induction k with
  | zero =>
    intro k' T Y d h hk hk'
    cases e : o (cHr t n T.1 T.2.1) with
    | false => exact sim_out ho _ _ h e
    | true =>
      have hp := (cHr_at ((ho _).1 e).1).2
      omega
  | succ k ih =>
    intro k' T Y d h hk hk'
    cases e : o (cHr t n T.1 T.2.1) with
    | false => exact sim_out ho _ _ h e
    | true =>
      obtain ⟨hx0, q6, q15, es, ew⟩ := (ho _).1 e
      have hp := (cHr_at hx0).2
      have hx := sI_hr (t := t) h.1
      cases k' with
      | zero => omega
      | succ k' =>
        have e1 : cLpS t n sub o (k + 1) (cHr t n T.1 T.2.1, cAt1 T) = (if (cHr t n T.1 T.2.1).toInt = -1 then cAt1 T else cLpS t n sub o k (cOf t n o (cAdd (cHr t n T.1 T.2.1) 0 (sub (cAt1 T))))) := rfl
        have e2 : rLpS t n sub' q (k' + 1) Y = (if (q (rHr t n Y)).toInt < 0 then (1, Y) else if (sub' (rAt1 Y)).1.toInt = 0 then (0, (sub' (rAt1 Y)).2) else rLpS t n sub' q k' (rCod (q (rHr t n Y)) (sub' (rAt1 Y)).2)) := rfl
        rw [cOf_t e, e1, if_neg (by omega), e2, hx, if_neg (by omega)]
        rcases hs (cAt1 T) (rAt1 Y) (sI_step h.1 hp) with ⟨hz, hb⟩ | ⟨hnz, d2, hg⟩
        · rw [if_pos hz, cLpS_b ho k (U := cAdd (cHr t n T.1 T.2.1) 0 (sub (cAt1 T))) hb.2]
          exact Or.inl ⟨(by decide : (0 : Int32).toInt = 0), hb⟩
        · rw [if_neg hnz]
          have hu := (sG_at1 h.1.2.2.1.1 hp hg).2.2.1
          have hu1 : (cAdd (cHr t n T.1 T.2.1) 0 (sub (cAt1 T))).1 = (sub (cAt1 T)).1 := rfl
          exact ih k' _ _ _ (sG_bin hn hS h hp hg q6 q15 es ew) (by rw [hu1]; omega) (by rw [hu1]; omega)
theorem sim_mul {sub : cS → cS} {sub' : rS → Int32 × rS} {o : Int32 → Bool} {q : Int32 → Int32} (hn : n.toInt ≤ 120) (ho : OpR o q) (hs : Sim n sub sub') : Sim n (cMul t n sub o) (rMul t n sub' q) := fun S Z hS => by
  unfold cMul rMul
  rcases hs S Z hS with ⟨hz, hb⟩ | ⟨hnz, d, hg⟩
  · rw [if_pos hz, cLpS_b ho _ hb.2]
    exact Or.inl ⟨(by decide : (0 : Int32).toInt = 0), hb⟩
  · rw [if_neg hnz]
    have := hg.1.2.2.1.1
    exact sim_loop hn ho hs hS _ _ _ _ d hg (by omega) (by omega)
theorem sim_cmp {sub : cS → cS} {sub' : rS → Int32 × rS} {o : Int32 → Bool} {q : Int32 → Int32} (hn : n.toInt ≤ 120) (ho : OpR o q) (hs : Sim n sub sub') : Sim n (cCmp t n sub o) (rCmp t n sub' q) := fun S Z hS => by
  unfold cCmp rCmp
  rcases hs S Z hS with ⟨hz, hb⟩ | ⟨hnz, d, hg⟩
  · rw [if_pos hz, cOf_f (by rw [cHr_1 hb.2]; exact opR_m1 ho), if_pos (by decide : (-1 : Int32).toInt = -1)]
    exact Or.inl ⟨(by decide : (0 : Int32).toInt = 0), hb⟩
  · have hx := sI_hr (t := t) hg.1
    rw [if_neg hnz, hx]
    cases e : o (cHr t n (sub S).1 (sub S).2.1) with
    | false =>
      rw [cOf_f e, if_pos (by decide : (-1 : Int32).toInt = -1), if_pos ((ho _).2 e)]
      exact Or.inr ⟨(by decide : ¬ ((1 : Int32).toInt = 0)), d, hg⟩
    | true =>
      obtain ⟨hx0, q6, q15, es, ew⟩ := (ho _).1 e
      have hp := (cHr_at hx0).2
      rw [cOf_t e]
      dsimp only
      rw [if_neg (by omega), if_neg (by omega)]
      unfold rCm2
      rcases hs (cAt1 (sub S)) (rAt1 (sub' Z).2) (sI_step hg.1 hp) with ⟨hz, hb⟩ | ⟨hnz2, d2, hg2⟩
      · rw [if_pos hz]
        exact Or.inl ⟨(by decide : (0 : Int32).toInt = 0), hb⟩
      · rw [if_neg hnz2]
        exact Or.inr ⟨(by decide : ¬ ((1 : Int32).toInt = 0)), _, sG_bin hn hS hg hp hg2 q6 q15 es ew⟩
theorem cLpB_b {sub : cS → cS} {c : Int32} (hc : 0 ≤ c.toInt) (k : Nat) {U : cS} (hb : U.2.1.toInt ≠ 0) : cLpB t n sub c k U = U := by
  cases k with
  | zero => rfl
  | succ k =>
    have k1 : (-1 : Int32).toInt = -1 := by decide
    have e1 : cLpB t n sub c (k + 1) U = (if (cTk t n c U).1.toInt = 0 then (cTk t n c U).2 else cLpB t n sub c k (cAdd c 0 (sub (cTk t n c U).2))) := rfl
    rw [e1, cTk_f (by rw [cHr_1 hb]; omega)]
    exact if_pos (by decide : (0 : Int32).toInt = 0)
theorem sim_outB {sub : cS → cS} {sub' : rS → Int32 × rS} {c x : Int32} {S : cS} {Z : rS} (k k' : Nat) {T : cS} {Y : rS} {d : List Int32} (h : sG n S Z T Y d) (e : ¬ ((cHr t n T.1 T.2.1).toInt = c.toInt)) : sR n S Z (cLpB t n sub c k T) (rLpB t n sub' c x k' Y) := by
  have hx := sI_hr (t := t) h.1
  have e1 : cLpB t n sub c k T = T := by
    cases k with
    | zero => rfl
    | succ k =>
      unfold cLpB
      rw [cTk_f e]
      exact if_pos (by decide : (0 : Int32).toInt = 0)
  have e2 : rLpB t n sub' c x k' Y = (1, Y) := by
    cases k' with
    | zero => rfl
    | succ k' =>
      unfold rLpB
      rw [rTk_f (by rw [hx]; exact e)]
      exact if_pos (by decide : (0 : Int32).toInt = 0)
  rw [e1, e2]
  exact Or.inr ⟨(by decide : ¬ ((1 : Int32).toInt = 0)), d, h⟩
theorem sim_loopB {sub : cS → cS} {sub' : rS → Int32 × rS} {c x : Int32} (hn : n.toInt ≤ 120) (hc : 0 ≤ c.toInt) (h6 : 6 ≤ x.toInt) (h15 : x.toInt ≤ 15) (es : c = eSt x) (ew : 0 = eWi x) (hs : Sim n sub sub') {S : cS} {Z : rS} (hS : sI n S Z) (k : Nat) : ∀ (k' : Nat) (T : cS) (Y : rS) (d : List Int32), sG n S Z T Y d → (n.toInt - T.1.toInt).toNat ≤ k → (n.toInt - T.1.toInt).toNat ≤ k' → sR n S Z (cLpB t n sub c k T) (rLpB t n sub' c x k' Y) := by
  induction k with
  | zero =>
    intro k' T Y d h hk hk'
    by_cases e : (cHr t n T.1 T.2.1).toInt = c.toInt
    · have hp := (cHr_at (by rw [e]; exact hc)).2
      omega
    · exact sim_outB _ _ h e
  | succ k ih =>
    intro k' T Y d h hk hk'
    by_cases e : (cHr t n T.1 T.2.1).toInt = c.toInt
    · have hp := (cHr_at (by rw [e]; exact hc)).2
      have hx := sI_hr (t := t) h.1
      cases k' with
      | zero => omega
      | succ k' =>
        have e1 : cLpB t n sub c (k + 1) T = (if (cTk t n c T).1.toInt = 0 then (cTk t n c T).2 else cLpB t n sub c k (cAdd c 0 (sub (cTk t n c T).2))) := rfl
        have e2 : rLpB t n sub' c x (k' + 1) Y = (if (rTk t n c Y).1.toInt = 0 then (1, (rTk t n c Y).2) else if (sub' (rTk t n c Y).2).1.toInt = 0 then (0, (sub' (rTk t n c Y).2).2) else rLpB t n sub' c x k' (rCod x (sub' (rTk t n c Y).2).2)) := rfl
        rw [e1, e2, cTk_t e, rTk_t (by rw [hx]; exact e), if_neg (by decide : ¬ ((1 : Int32).toInt = 0)), if_neg (by decide : ¬ ((1 : Int32).toInt = 0))]
        dsimp only
        rcases hs (cAt1 T) (rAt1 Y) (sI_step h.1 hp) with ⟨hz, hb⟩ | ⟨hnz, d2, hg⟩
        · rw [if_pos hz, cLpB_b hc k (U := cAdd c 0 (sub (cAt1 T))) hb.2]
          exact Or.inl ⟨(by decide : (0 : Int32).toInt = 0), hb⟩
        · rw [if_neg hnz]
          have hu := (sG_at1 h.1.2.2.1.1 hp hg).2.2.1
          have hu1 : (cAdd c 0 (sub (cAt1 T))).1 = (sub (cAt1 T)).1 := rfl
          exact ih k' _ _ _ (sG_bin hn hS h hp hg h6 h15 es ew) (by rw [hu1]; omega) (by rw [hu1]; omega)
    · exact sim_outB _ _ h e
theorem sim_bin {sub : cS → cS} {sub' : rS → Int32 × rS} {c x : Int32} (hn : n.toInt ≤ 120) (hc : 0 ≤ c.toInt) (h6 : 6 ≤ x.toInt) (h15 : x.toInt ≤ 15) (es : c = eSt x) (ew : 0 = eWi x) (hs : Sim n sub sub') : Sim n (cBin t n sub c) (rBin t n sub' c x) := fun S Z hS => by
  unfold cBin rBin
  rcases hs S Z hS with ⟨hz, hb⟩ | ⟨hnz, d, hg⟩
  · rw [if_pos hz, cLpB_b hc _ hb.2]
    exact Or.inl ⟨(by decide : (0 : Int32).toInt = 0), hb⟩
  · rw [if_neg hnz]
    have := hg.1.2.2.1.1
    exact sim_loopB hn hc h6 h15 es ew hs hS _ _ _ _ d hg (by omega) (by omega)
theorem sim_eit {sub : cS → cS} {sub' : rS → Int32 × rS} (hn : n.toInt ≤ 120) (hs : Sim n sub sub') : Sim n (cEit t n sub) (rEit t n sub') :=
  sim_bin hn (by decide) (by decide) (by decide) (by decide) (by decide) (sim_bin hn (by decide) (by decide) (by decide) (by decide) (by decide) (sim_cmp hn opR_cmp (sim_mul hn opR_sum (sim_mul hn opR_mul hs))))
/-! numbers -/
theorem cDig_eq : ∀ (k : Nat) (v : Int32) (S : cS), S.2.1.toInt = 0 → cDig t n k (v, S) = ((rDig t n k (v, S.1)).1, ((rDig t n k (v, S.1)).2, S.2))
  | 0, v, S, _ => rfl
  | k + 1, v, S, h => by
    have e1 : cDig t n (k + 1) (v, S) = (if 48 ≤ (cHr t n S.1 S.2.1).toInt ∧ (cHr t n S.1 S.2.1).toInt ≤ 57 then cDig t n k (((v * 10) + cHr t n S.1 S.2.1) - 48, cAt1 S) else (v, S)) := rfl
    have e2 : rDig t n (k + 1) (v, S.1) = (if 48 ≤ (cHr t n S.1 0).toInt ∧ (cHr t n S.1 0).toInt ≤ 57 then rDig t n k (((10 * v) + cHr t n S.1 0) - 48, S.1 + 1) else (v, S.1)) := rfl
    rw [e1, e2, cHr_0 h]
    by_cases hd : 48 ≤ (cHr t n S.1 0).toInt ∧ (cHr t n S.1 0).toInt ≤ 57
    · rw [if_pos hd, if_pos hd, Int32.mul_comm v 10]
      exact cDig_eq k _ (cAt1 S) h
    · rw [if_neg hd, if_neg hd]
theorem ten_pos : ∀ k : Nat, (1 : Int) ≤ 10 ^ k
  | 0 => by decide
  | k + 1 => by
    have := ten_pos k
    rw [Int.pow_succ]
    omega
theorem rDig_rng (hn : n.toInt ≤ 120) : ∀ (k : Nat) (v p : Int32) (B : Int), 0 ≤ v.toInt → v.toInt < B → B * 10 ^ k ≤ 10000 → 0 ≤ p.toInt → p.toInt ≤ n.toInt → (0 ≤ (rDig t n k (v, p)).1.toInt ∧ (rDig t n k (v, p)).1.toInt < 10000) ∧ p.toInt ≤ (rDig t n k (v, p)).2.toInt ∧ (rDig t n k (v, p)).2.toInt ≤ n.toInt
  | 0, v, p, B, h0, h1, h2, h3, h4 => by
    have h2 : B * 1 ≤ 10000 := h2
    exact ⟨⟨h0, by show v.toInt < 10000; omega⟩, Int.le_refl _, h4⟩
  | k + 1, v, p, B, h0, h1, h2, h3, h4 => by
    have e2 : rDig t n (k + 1) (v, p) = (if 48 ≤ (cHr t n p 0).toInt ∧ (cHr t n p 0).toInt ≤ 57 then rDig t n k (((10 * v) + cHr t n p 0) - 48, p + 1) else (v, p)) := rfl
    have hB : B ≤ 10000 := by
      have hp : (1 : Int) ≤ 10 ^ (k + 1) := ten_pos _
      have := Int.mul_le_mul_of_nonneg_left hp (by omega : 0 ≤ B)
      omega
    rw [e2]
    by_cases hd : 48 ≤ (cHr t n p 0).toInt ∧ (cHr t n p 0).toInt ≤ 57
    · rw [if_pos hd]
      have hp := (cHr_at (t := t) (n := n) (p := p) (f := 0) (by omega)).2
      have ep := kp1 h3 hp
      have k10 : (10 : Int32).toInt = 10 := by decide
      have k48 : (48 : Int32).toInt = 48 := by decide
      have hpw : B * 10 ^ (k + 1) = 10 * B * 10 ^ k := by rw [Int.pow_succ]; rw [Int.mul_comm (10 ^ k) 10, ← Int.mul_assoc, Int.mul_comm B 10]
      have hB2 : 10 * B ≤ 10000 := by
        have hp : (1 : Int) ≤ 10 ^ k := ten_pos _
        have := Int.mul_le_mul_of_nonneg_left hp (by omega : 0 ≤ 10 * B)
        omega
      have m1 : (10 * v).toInt = 10 * v.toInt := kd_cmul 10 k10 (by omega) (by omega)
      have m2 : ((10 * v) + cHr t n p 0).toInt = (10 * v).toInt + (cHr t n p 0).toInt := kd_add (by omega) (by omega)
      have m3 : (((10 * v) + cHr t n p 0) - 48).toInt = ((10 * v) + cHr t n p 0).toInt - (48 : Int32).toInt := kd_sub (by omega) (by omega)
      obtain ⟨a, b, c⟩ := rDig_rng hn k (((10 * v) + cHr t n p 0) - 48) (p + 1) (10 * B) (by omega) (by omega) (by omega) (by omega) (by omega)
      exact ⟨a, by omega, c⟩
    · rw [if_neg hd]
      exact ⟨⟨h0, by show v.toInt < 10000; omega⟩, Int.le_refl _, h4⟩
theorem nam_t {x : Int32} (h : oNam x = true) : 0 ≤ x.toInt ∧ 0 ≤ (nmO x).toInt ∧ 1 = eSt (nmO x) ∧ nIdx x = eWi (nmO x) ∧ (nmO x).toInt ≤ 5 := by
  rcases of_decide_eq_true h with h | h | h | h | h | h
  · have e : x = 119 := kv42 (h.trans (by decide)); subst e; decide
  · have e : x = 112 := kv42 (h.trans (by decide)); subst e; decide
  · have e : x = 104 := kv42 (h.trans (by decide)); subst e; decide
  · have e : x = 110 := kv42 (h.trans (by decide)); subst e; decide
  · have e : x = 111 := kv42 (h.trans (by decide)); subst e; decide
  · have e : x = 100 := kv42 (h.trans (by decide)); subst e; decide
theorem nam_f {x : Int32} (h : oNam x = false) : (nmO x).toInt < 0 := by
  have h := of_decide_eq_false h
  unfold nmO
  rw [if_neg (by omega), if_neg (by omega), if_neg (by omega), if_neg (by omega), if_neg (by omega), if_neg (by omega)]
  decide
theorem sim_num {S : cS} {Z : rS} (hn : n.toInt ≤ 120) (hS : sI n S Z) (h0 : 48 ≤ (cHr t n S.1 S.2.1).toInt) (h1 : (cHr t n S.1 S.2.1).toInt ≤ 57) : ∃ d, sG n S Z (cNum t n S) (rCod (18 + (rDig t n 4 (0, Z.1)).1) ((rDig t n 4 (0, Z.1)).2, Z.2)) d := by
  have ec : cNum t n S = cAdd 0 (rDig t n 4 (0, S.1)).1 ((rDig t n 4 (0, S.1)).2, S.2) := by
    unfold cNum
    rw [cDig_eq 4 0 S hS.2.1]
  have h0' : 48 ≤ (cHr t n S.1 0).toInt := by rw [← cHr_0 hS.2.1]; exact h0
  have h1' : (cHr t n S.1 0).toInt ≤ 57 := by rw [← cHr_0 hS.2.1]; exact h1
  have hp := (cHr_at (t := t) (n := n) (p := S.1) (f := 0) (by omega)).2
  have k10 : (10 : Int32).toInt = 10 := by decide
  have k48 : (48 : Int32).toInt = 48 := by decide
  have k0 : (0 : Int32).toInt = 0 := by decide
  have k18 : (18 : Int32).toInt = 18 := by decide
  have hs0 := hS.2.2.1.1
  have e2 : rDig t n 4 (0, S.1) = rDig t n 3 (((10 * 0) + cHr t n S.1 0) - 48, S.1 + 1) := if_pos ⟨h0', h1'⟩
  have ep := kp1 hS.2.2.1.1 hp
  have m1 : ((10 : Int32) * 0).toInt = 0 := by decide
  have m2 : (((10 : Int32) * 0) + cHr t n S.1 0).toInt = ((10 : Int32) * 0).toInt + (cHr t n S.1 0).toInt := kd_add (by omega) (by omega)
  have m3 : ((((10 : Int32) * 0) + cHr t n S.1 0) - 48).toInt = (((10 : Int32) * 0) + cHr t n S.1 0).toInt - (48 : Int32).toInt := kd_sub (by omega) (by omega)
  obtain ⟨⟨a0, a1⟩, b, c⟩ := rDig_rng (t := t) hn 3 ((((10 : Int32) * 0) + cHr t n S.1 0) - 48) (S.1 + 1) 10 (by omega) (by omega) (by decide) (by omega) (by omega)
  rw [← e2] at a0 a1 b c
  rw [ec, ← hS.1]
  generalize hR : rDig t n 4 (0, S.1) = R at a0 a1 b c
  have m4 : (18 + R.1).toInt = (18 : Int32).toInt + R.1.toInt := kd_add (by omega) (by omega)
  have m5 : (18 + R.1 - 18).toInt = (18 + R.1).toInt - (18 : Int32).toInt := kd_sub (by omega) (by omega)
  obtain ⟨g1, g2, g3, g4, g5, g6⟩ := hS
  have hI : sI n (R.2, S.2) (R.2, Z.2) := ⟨rfl, g2, ⟨by show 0 ≤ R.2.toInt; omega, c⟩, ⟨g4.1, by show S.2.2.2.2.toInt ≤ R.2.toInt; omega⟩, ⟨g5.1, by show Z.2.1.toInt ≤ R.2.toInt; omega⟩, g6⟩
  have ho : (0 : Int32) = eSt (18 + R.1) := (if_pos (by omega)).symm
  have hw : R.1 = eWi (18 + R.1) := by
    unfold eWi
    rw [if_pos (by omega)]
    exact kj_v (by omega)
  obtain ⟨i1, c1, r1⟩ := sI_add hn hI (o := 0) (w := R.1) (x := 18 + R.1) (by show S.2.2.2.2.toInt + 1 ≤ R.2.toInt; omega) (by show Z.2.1.toInt + 1 ≤ R.2.toInt; omega) ho hw
  refine ⟨[18 + R.1], i1, ?_, ?_, c1, r1, dHt_push (Or.inl (by omega))⟩
  · show S.1.toInt + (1 : Nat) ≤ R.2.toInt
    omega
  · show S.1.toInt < R.2.toInt
    omega
theorem sim_un {S : cS} {Z : rS} {f : cS → cS} {g : rS → Int32 × rS} {o x : Int32} (hn : n.toInt ≤ 120) (hS : sI n S Z) (hp : S.1.toInt < n.toInt) (hs : Sim n f g) (hx : x.toInt = 16 ∨ x.toInt = 17) (ho : o = eSt x) (hw : 0 = eWi x) : sR n S Z (cAdd o 0 (f (cAt1 S))) (rCm2 x (g (rAt1 Z))) := by
  unfold rCm2
  rcases hs (cAt1 S) (rAt1 Z) (sI_step hS hp) with ⟨hz, hb⟩ | ⟨hnz, d, hg⟩
  · rw [if_pos hz]
    exact Or.inl ⟨(by decide : (0 : Int32).toInt = 0), hb⟩
  · rw [if_neg hnz]
    obtain ⟨b1, b2, b3, b4, b5, b6⟩ := sG_at1 hS.2.2.1.1 hp hg
    have hs1 := hS.2.2.2.1
    have hz1 := hS.2.2.2.2.1
    have l2 := b4.2.2.1
    have l4 := b5.2.1
    obtain ⟨i1, c1, r1⟩ := sI_add hn b1 (o := o) (w := 0) (x := x) (by omega) (by omega) ho hw
    have e1 : (cAdd o 0 (f (cAt1 S))).1 = (f (cAt1 S)).1 := rfl
    refine Or.inr ⟨(by decide : ¬ ((1 : Int32).toInt = 0)), d ++ [x], i1, ?_, ?_, cSeg_app hs1.1 b4 c1, rSeg_app hz1.1 b5 r1, dHt_un b6 hx⟩
    · rw [e1, List.length_append]
      simp
      omega
    · rw [e1]; omega
def nxR (n : Int32) (f : Option (cS → cS)) (g : Option (rS → Int32 × rS)) : Prop := (f = none ∧ g = none) ∨ ∃ f1 g1, f = some f1 ∧ g = some g1 ∧ Sim n f1 g1
theorem sim_par {S U : cS} {Z : rS} {V : Int32 × rS} (hS : sI n S Z) (hp : S.1.toInt < n.toInt) (hsim : sR n (cAt1 S) (rAt1 Z) U V) : sR n S Z (cEnd (cTk t n 41 U)) (rPar t n V) := by
  obtain ⟨v, Y⟩ := V
  rcases hsim with ⟨hz, hb⟩ | ⟨hnz, d, hg⟩
  · have e1 : cTk t n 41 U = (0, U) := cTk_f (by rw [cHr_1 hb.2]; decide)
    have e2 : rPar t n (v, Y) = (0, Y) := if_pos hz
    have e3 : cEnd (0, U) = cBad U := if_pos (by decide : (0 : Int32).toInt = 0)
    rw [e1, e2, e3]
    exact Or.inl ⟨(by decide : (0 : Int32).toInt = 0), hb.1, (by decide : (1 : Int32).toInt ≠ 0)⟩
  · have e2 : rPar t n (v, Y) = rTk t n 41 Y := if_neg hnz
    rw [e2]
    obtain ⟨b1, b2, b3, b4, b5, b6⟩ := sG_at1 hS.2.2.1.1 hp hg
    have b1 : sI n U Y := b1
    have hx2 := sI_hr (t := t) b1
    by_cases h41 : (cHr t n U.1 U.2.1).toInt = (41 : Int32).toInt
    · have hp2 := (cHr_at (by rw [h41]; decide)).2
      have ep2 := kp1 b1.2.2.1.1 hp2
      have e3 : cEnd (1, cAt1 U) = cAt1 U := if_neg (by decide : ¬ ((1 : Int32).toInt = 0))
      rw [cTk_t h41, rTk_t (by rw [hx2]; exact h41), e3]
      refine Or.inr ⟨(by decide : ¬ ((1 : Int32).toInt = 0)), d, sI_step b1 hp2, ?_, ?_, b4, b5, b6⟩
      · show S.1.toInt + d.length ≤ (U.1 + 1).toInt
        omega
      · show S.1.toInt < (U.1 + 1).toInt
        omega
    · have e3 : cEnd (0, U) = cBad U := if_pos (by decide : (0 : Int32).toInt = 0)
      rw [cTk_f h41, rTk_f (by rw [hx2]; exact h41), e3]
      exact Or.inl ⟨(by decide : (0 : Int32).toInt = 0), b1.1, (by decide : (1 : Int32).toInt ≠ 0)⟩
theorem sim_part {f : Option (cS → cS)} {g : Option (rS → Int32 × rS)} (hn : n.toInt ≤ 120) (hs : nxR n f g) : Sim n (cPart t n f) (rPart t n g) := fun S Z hS => by
  have hx := sI_hr (t := t) hS
  have k1 : (-1 : Int32).toInt = -1 := by decide
  unfold cPart rPart
  rw [hx]
  by_cases hd : 48 ≤ (cHr t n S.1 S.2.1).toInt ∧ (cHr t n S.1 S.2.1).toInt ≤ 57
  · rw [if_pos hd, if_pos hd]
    exact Or.inr ⟨(by decide : ¬ ((1 : Int32).toInt = 0)), sim_num hn hS hd.1 hd.2⟩
  · rw [if_neg hd, if_neg hd]
    cases e : oNam (cHr t n S.1 S.2.1) with
    | true =>
      obtain ⟨n0, n1, n2, n3, n4⟩ := nam_t e
      have hp := (cHr_at n0).2
      rw [cOf_t e]
      dsimp only
      rw [if_pos (by omega), if_pos n1]
      have hI := sI_step hS hp
      have ep := kp1 hS.2.2.1.1 hp
      have hs1 := hS.2.2.2.1
      have hz1 := hS.2.2.2.2.1
      obtain ⟨i1, c1, r1⟩ := sI_add hn hI (o := 1) (w := nIdx (cHr t n S.1 S.2.1)) (x := nmO (cHr t n S.1 S.2.1)) (by show S.2.2.2.2.toInt + 1 ≤ (S.1 + 1).toInt; omega) (by show Z.2.1.toInt + 1 ≤ (S.1 + 1).toInt; omega) n2 n3
      refine Or.inr ⟨(by decide : ¬ ((1 : Int32).toInt = 0)), [nmO (cHr t n S.1 S.2.1)], i1, ?_, ?_, c1, r1, dHt_push (Or.inr ⟨n1, n4⟩)⟩
      · show S.1.toInt + (1 : Nat) ≤ (S.1 + 1).toInt
        omega
      · show S.1.toInt < (S.1 + 1).toInt
        omega
    | false =>
      have hm := nam_f e
      have hA : ¬ ((cOf t n oNam S).1.toInt ≠ -1) := by rw [cOf_f e]; exact fun z => z k1
      have hB : ¬ (0 ≤ (nmO (cHr t n S.1 S.2.1)).toInt) := by omega
      rw [if_neg hA, if_neg hB]
      rcases hs with ⟨hf, hg⟩ | ⟨f1, g1, hf, hg, hs⟩
      · subst hf
        subst hg
        exact Or.inl ⟨(by decide : (0 : Int32).toInt = 0), hS.1, (by decide : (1 : Int32).toInt ≠ 0)⟩
      · subst hf
        subst hg
        dsimp only
        cases e2 : oOpn (cHr t n S.1 S.2.1) with
        | false =>
          have h2 := of_decide_eq_false e2
          have hC : (cOf t n oOpn S).1.toInt = -1 := by rw [cOf_f e2]; exact k1
          have h40 : ¬ ((cHr t n S.1 S.2.1).toInt = 40) := fun z => h2 (Or.inl z)
          have h33 : ¬ ((cHr t n S.1 S.2.1).toInt = 33) := fun z => h2 (Or.inr (Or.inl z))
          have h45 : ¬ ((cHr t n S.1 S.2.1).toInt = 45) := fun z => h2 (Or.inr (Or.inr z))
          rw [if_pos hC, if_neg h33, if_neg h45, if_neg h40]
          exact Or.inl ⟨(by decide : (0 : Int32).toInt = 0), hS.1, (by decide : (1 : Int32).toInt ≠ 0)⟩
        | true =>
          have h2 := of_decide_eq_true e2
          have hp := (cHr_at (t := t) (n := n) (p := S.1) (f := S.2.1) (by omega)).2
          have hE : (cOf t n oOpn S).1 = cHr t n S.1 S.2.1 := by rw [cOf_t e2]
          have hF : (cOf t n oOpn S).2 = cAt1 S := by rw [cOf_t e2]
          rw [hE, hF]
          have hC : ¬ ((cHr t n S.1 S.2.1).toInt = -1) := by omega
          rw [if_neg hC]
          rcases h2 with h2 | h2 | h2
          · have h33 : ¬ ((cHr t n S.1 S.2.1).toInt = 33) := by omega
            have h45 : ¬ ((cHr t n S.1 S.2.1).toInt = 45) := by omega
            rw [if_neg h33, if_pos h2, if_pos h2, if_neg h45]
            have hsim := sim_eit (t := t) hn hs (cAt1 S) (rAt1 Z) (sI_step hS hp)
            generalize cEit t n f1 (cAt1 S) = U at hsim ⊢
            generalize rEit t n g1 (rAt1 Z) = V at hsim ⊢
            exact sim_par hS hp hsim
          · have ex : cHr t n S.1 S.2.1 = 33 := kv42 (h2.trans (by decide))
            have h40 : ¬ ((cHr t n S.1 S.2.1).toInt = 40) := by omega
            have h45 : ¬ ((cHr t n S.1 S.2.1).toInt = 45) := by omega
            rw [if_pos h2, if_neg h40, if_neg h45, ex]
            exact sim_un hn hS hp hs (Or.inl (by decide)) (by decide) (by decide)
          · have h33 : ¬ ((cHr t n S.1 S.2.1).toInt = 33) := by omega
            have h40 : ¬ ((cHr t n S.1 S.2.1).toInt = 40) := by omega
            rw [if_neg h33, if_pos h2, if_pos h2, if_neg h40]
            exact sim_un hn hS hp hs (Or.inr (by decide)) (by decide) (by decide)
theorem sim_O (hn : n.toInt ≤ 120) : ∀ m : Nat, Sim n (cO t n m) (rO t n m)
  | 0 => sim_part hn (Or.inl ⟨rfl, rfl⟩)
  | m + 1 => sim_part hn (Or.inr ⟨_, _, rfl, rfl, sim_O hn m⟩)
theorem sim_E (hn : n.toInt ≤ 120) (m : Nat) : Sim n (cE t n m) (rE t n m) := sim_eit hn (sim_O hn m)
end SIM
end
section
/-! LINES: what was read, as parts; how class and reference hold it -/
abbrev kLn : Type := Option (List Int32) × List Int32
def cLy (st wi : List Int32) : Nat → List kLn → Nat → Prop
  | p, [], e => p = e
  | p, (none, d) :: r, e => cAt st wi p d ∧ (st.getD (p + d.length) 0).toInt = 2 ∧ cLy st wi (p + d.length + 1) r e
  | p, (some a, d) :: r, e => cAt st wi p a ∧ (st.getD (p + a.length) 0).toInt = 3 ∧ (wi.getD (p + a.length) 0).toInt = ((p + a.length + 1 + d.length + 1 : Nat) : Int) ∧ cAt st wi (p + a.length + 1) d ∧ (st.getD (p + a.length + 1 + d.length) 0).toInt = 2 ∧ cLy st wi (p + a.length + 1 + d.length + 1) r e
def rLy (A Y E L : List Int32) : Nat → Nat → List kLn → Nat → Nat → Prop
  | j, c, [], k, e => j = k ∧ c = e
  | j, c, (none, d) :: r, k, e => ((A.getD j 0).toInt = (c : Int) ∧ (Y.getD j 0).toInt = (c : Int) ∧ (E.getD j 0).toInt = ((c + d.length : Nat) : Int)) ∧ rAt L c d ∧ rLy A Y E L (j + 1) (c + d.length) r k e
  | j, c, (some a, d) :: r, k, e => ((A.getD j 0).toInt = (c : Int) ∧ (Y.getD j 0).toInt = ((c + a.length : Nat) : Int) ∧ (E.getD j 0).toInt = ((c + a.length + d.length : Nat) : Int)) ∧ rAt L c a ∧ rAt L (c + a.length) d ∧ rLy A Y E L (j + 1) (c + a.length + d.length) r k e
def okLn (l : kLn) : Prop := dHt l.2 0 = some 1 ∧ ∀ a, l.1 = some a → dHt a 0 = some 1
theorem cLy_congr {st wi st1 wi1 : List Int32} : ∀ (l : List kLn) (p e : Nat), (∀ j : Nat, j < e → st1.getD j 0 = st.getD j 0 ∧ wi1.getD j 0 = wi.getD j 0) → cLy st wi p l e → cLy st1 wi1 p l e ∧ p ≤ e
  | [], p, e, _, h => ⟨h, Nat.le_of_eq h⟩
  | (none, d) :: r, p, e, g, h => by
    obtain ⟨h1, h2, h3⟩ := h
    obtain ⟨i1, i2⟩ := cLy_congr r _ _ g h3
    refine ⟨⟨fun j hj => ?_, ?_, i1⟩, by omega⟩
    · rw [(g (p + j) (by omega)).1, (g (p + j) (by omega)).2]; exact h1 j hj
    · rw [(g (p + d.length) (by omega)).1]; exact h2
  | (some a, d) :: r, p, e, g, h => by
    obtain ⟨h1, h2, h3, h4, h5, h6⟩ := h
    obtain ⟨i1, i2⟩ := cLy_congr r _ _ g h6
    refine ⟨⟨fun j hj => ?_, ?_, ?_, fun j hj => ?_, ?_, i1⟩, by omega⟩
    · rw [(g (p + j) (by omega)).1, (g (p + j) (by omega)).2]; exact h1 j hj
    · rw [(g (p + a.length) (by omega)).1]; exact h2
    · rw [(g (p + a.length) (by omega)).2]; exact h3
    · rw [(g (p + a.length + 1 + j) (by omega)).1, (g (p + a.length + 1 + j) (by omega)).2]; exact h4 j hj
    · rw [(g (p + a.length + 1 + d.length) (by omega)).1]; exact h5
theorem cLy_snoc {st wi : List Int32} {x : kLn} {e e2 : Nat} : ∀ (l : List kLn) (p : Nat), cLy st wi p l e → cLy st wi e [x] e2 → cLy st wi p (l ++ [x]) e2
  | [], p, h, g => by
    have h : p = e := h
    subst h
    exact g
  | (none, d) :: r, p, h, g => ⟨h.1, h.2.1, cLy_snoc r _ h.2.2 g⟩
  | (some a, d) :: r, p, h, g => ⟨h.1, h.2.1, h.2.2.1, h.2.2.2.1, h.2.2.2.2.1, cLy_snoc r _ h.2.2.2.2.2 g⟩
theorem rLy_congr {A Y E L A1 Y1 E1 L1 : List Int32} : ∀ (l : List kLn) (j c k e : Nat), (∀ m : Nat, m < k → A1.getD m 0 = A.getD m 0 ∧ Y1.getD m 0 = Y.getD m 0 ∧ E1.getD m 0 = E.getD m 0) → (∀ m : Nat, m < e → L1.getD m 0 = L.getD m 0) → rLy A Y E L j c l k e → rLy A1 Y1 E1 L1 j c l k e ∧ j ≤ k ∧ c ≤ e
  | [], j, c, k, e, _, _, h => ⟨h, Nat.le_of_eq h.1, Nat.le_of_eq h.2⟩
  | (none, d) :: r, j, c, k, e, g, gl, h => by
    obtain ⟨⟨h1, h2, h3⟩, h4, h5⟩ := h
    obtain ⟨i1, i2, i3⟩ := rLy_congr r _ _ _ _ g gl h5
    obtain ⟨g1, g2, g3⟩ := g j (by omega)
    refine ⟨⟨⟨by rw [g1]; exact h1, by rw [g2]; exact h2, by rw [g3]; exact h3⟩, fun m hm => ?_, i1⟩, by omega, by omega⟩
    rw [gl _ (by omega)]; exact h4 m hm
  | (some a, d) :: r, j, c, k, e, g, gl, h => by
    obtain ⟨⟨h1, h2, h3⟩, h4, h5, h6⟩ := h
    obtain ⟨i1, i2, i3⟩ := rLy_congr r _ _ _ _ g gl h6
    obtain ⟨g1, g2, g3⟩ := g j (by omega)
    refine ⟨⟨⟨by rw [g1]; exact h1, by rw [g2]; exact h2, by rw [g3]; exact h3⟩, fun m hm => ?_, fun m hm => ?_, i1⟩, by omega, by omega⟩
    · rw [gl _ (by omega)]; exact h4 m hm
    · rw [gl _ (by omega)]; exact h5 m hm
theorem rLy_snoc {A Y E L : List Int32} {x : kLn} {k e k2 e2 : Nat} : ∀ (l : List kLn) (j c : Nat), rLy A Y E L j c l k e → rLy A Y E L k e [x] k2 e2 → rLy A Y E L j c (l ++ [x]) k2 e2
  | [], j, c, h, g => by
    obtain ⟨h1, h2⟩ := h
    subst h1
    subst h2
    exact g
  | (none, d) :: r, j, c, h, g => ⟨h.1, h.2.1, rLy_snoc r _ _ h.2.2 g⟩
  | (some a, d) :: r, j, c, h, g => ⟨h.1, h.2.1, h.2.2.1, rLy_snoc r _ _ h.2.2.2 g⟩
/-- lines read alike: what stands there, and that code isn't more than was read, but for one step -/
def sL (n : Int32) (S : cS) (Z : rL) (l : List kLn) : Prop := S.1 = Z.1.1 ∧ S.2.1.toInt = 0 ∧ (0 ≤ S.1.toInt ∧ S.1.toInt ≤ n.toInt) ∧ (0 ≤ S.2.2.2.2.toInt ∧ S.2.2.2.2.toInt ≤ S.1.toInt + 1) ∧ (0 ≤ Z.1.2.1.toInt ∧ Z.1.2.1.toInt ≤ S.1.toInt) ∧ (S.2.2.1.length = 121 ∧ S.2.2.2.1.length = 121 ∧ Z.1.2.2.length = 200) ∧ (Z.2.2.1.length = 61 ∧ Z.2.2.2.1.length = 61 ∧ Z.2.2.2.2.length = 61) ∧ (0 ≤ Z.2.1.toInt ∧ 2 * Z.2.1.toInt ≤ S.1.toInt + 1) ∧ cLy S.2.2.1 S.2.2.2.1 0 l S.2.2.2.2.toInt.toNat ∧ rLy Z.2.2.1 Z.2.2.2.1 Z.2.2.2.2 Z.1.2.2 0 0 l Z.2.1.toInt.toNat Z.1.2.1.toInt.toNat ∧ ∀ x ∈ l, okLn x
def sLR (n : Int32) (S : cS) (X : Int32 × rL) : Prop := (X.1.toInt = 0 ∧ sB S X.2.1) ∨ (¬ (X.1.toInt = 0) ∧ ∃ l, sL n S X.2 l)
theorem sSet {l : List Int32} {x v : Int32} (hl : l.length = 61) (h0 : 0 ≤ x.toInt) (h1 : x.toInt ≤ 60) : (l.set x.toNatClampNeg v).length = 61 ∧ (l.set x.toNatClampNeg v).getD x.toInt.toNat 0 = v ∧ ∀ m : Nat, m < x.toInt.toNat → (l.set x.toNatClampNeg v).getD m 0 = l.getD m 0 := by
  have t := Int32.toNat_toInt x
  refine ⟨by simpa using hl, ?_, fun m hm => ?_⟩
  · rw [gD_set (by omega), if_pos (by omega)]
  · rw [gD_set (by omega), if_neg (by omega)]
section SLN
variable {t : List Int32} {n : Int32}
set_option maxHeartbeats 8000000 in
theorem sim_lin {S : cS} {Z : rL} {l : List kLn} (hn : n.toInt ≤ 120) (h : sL n S Z l) (hlen : S.2.2.2.2.toInt ≤ S.1.toInt) (hnl : 2 * Z.2.1.toInt ≤ S.1.toInt) : sLR n (cLin t n S) (rLin t n Z) ∧ (¬ ((rLin t n Z).1.toInt = 0) → S.1.toInt < (cLin t n S).1.toInt) := by
  obtain ⟨h1, h2, h3, h4, h5, ⟨h6, h7, h8⟩, ⟨h9, h10, h11⟩, h12, hc, hr, hok⟩ := h
  have k0 : (0 : Int32).toInt = 0 := by decide
  have k1 : (1 : Int32).toInt = 1 := by decide
  have k2 : (2 : Int32).toInt = 2 := by decide
  have k3 : (3 : Int32).toInt = 3 := by decide
  have k63 : (63 : Int32).toInt = 63 := by decide
  have km : (-1 : Int32).toInt = -1 := by decide
  have hS : sI n S Z.1 := ⟨h1, h2, h3, ⟨h4.1, hlen⟩, h5, h6, h7, h8⟩
  have tn := Int32.toNat_toInt Z.2.1
  unfold cLin rLin
  have hsim := sim_E (t := t) hn 6 S Z.1 hS
  generalize hT : cE t n 6 S = T at *
  generalize hY : rE t n 6 Z.1 = Y at *
  rcases hsim with ⟨hz, hb⟩ | ⟨hnz, d, hg⟩
  · rw [if_pos hz, cTk_f (by rw [cHr_1 hb.2]; omega), if_pos k0]
    exact ⟨Or.inl ⟨k0, hb⟩, fun z => absurd k0 z⟩
  · rw [if_neg hnz]
    obtain ⟨b1, b2, b3, b4, b5, b6⟩ := hg
    have hx := sI_hr (t := t) b1
    have lc := b4.2.2.1
    have lr := b5.2.1
    obtain ⟨q1, q2, q3, q4, q5, q6, q7, q8⟩ := b1
    obtain ⟨sa1, sa2, sa3⟩ := sSet (v := Z.1.2.1) h9 h12.1 (by omega)
    have sget : (Z.2.2.1.set Z.2.1.toNatClampNeg Z.1.2.1).getD Z.2.1.toNatClampNeg 0 = Z.1.2.1 := by
      have sb := sa2
      rw [tn] at sb
      exact sb
    have enl : (Z.2.1 + 1).toInt = Z.2.1.toInt + 1 := by rw [kd_add (by omega) (by omega), k1]
    rw [sget]
    unfold rLn1
    by_cases h63 : (cHr t n T.1 T.2.1).toInt = (63 : Int32).toInt
    · -- a line with a question
      have hp := (cHr_at (by rw [h63]; omega)).2
      have ep := kp1 q3.1 hp
      rw [cTk_t h63, rTk_t (by rw [hx]; exact h63)]
      dsimp only
      rw [if_neg (by omega), if_neg (by omega)]
      unfold cLin2
      have tl := Int32.toNat_toInt T.2.2.2.2
      have e1 : (cAdd 3 0 (cAt1 T)).2.2 = (T.2.2.1.set T.2.2.2.2.toNatClampNeg 3, T.2.2.2.1.set T.2.2.2.2.toNatClampNeg 0, T.2.2.2.2 + 1) := if_pos (by show T.2.2.2.2.toInt ≤ 120; omega)
      have el : (T.2.2.2.2 + 1).toInt = T.2.2.2.2.toInt + 1 := by rw [kd_add (by omega) (by omega), k1]
      have hS2 : sI n (cAdd 3 0 (cAt1 T)) (rAt1 Y.2) := by
        refine ⟨?_, q2, ⟨?_, ?_⟩, ⟨?_, ?_⟩, ⟨q5.1, ?_⟩, ?_, ?_, q8⟩
        · show T.1 + 1 = Y.2.1 + 1
          rw [q1]
        · show 0 ≤ (T.1 + 1).toInt; omega
        · show (T.1 + 1).toInt ≤ n.toInt; omega
        · rw [e1]; show 0 ≤ (T.2.2.2.2 + 1).toInt; omega
        · rw [e1]; show (T.2.2.2.2 + 1).toInt ≤ (T.1 + 1).toInt; omega
        · show Y.2.2.1.toInt ≤ (T.1 + 1).toInt; omega
        · rw [e1]; simpa using q6
        · rw [e1]; simpa using q7
      generalize hS2e : cAdd 3 0 (cAt1 T) = S2 at *
      have e1a : S2.2.2.1 = T.2.2.1.set T.2.2.2.2.toNatClampNeg 3 := congrArg (fun z => z.1) e1
      have e1b : S2.2.2.2.1 = T.2.2.2.1.set T.2.2.2.2.toNatClampNeg 0 := congrArg (fun z => z.2.1) e1
      have e1c : S2.2.2.2.2 = T.2.2.2.2 + 1 := congrArg (fun z => z.2.2) e1
      have e1i : S2.2.2.2.2.toInt = T.2.2.2.2.toInt + 1 := by rw [e1c]; exact el
      have e1p : S2.1.toInt = T.1.toInt + 1 := by rw [← ep, ← hS2e]; rfl
      have hsim2 := sim_E (t := t) hn 6 S2 (rAt1 Y.2) hS2
      generalize hU : cE t n 6 S2 = U at *
      generalize hV : rE t n 6 (rAt1 Y.2) = V at *
      rcases hsim2 with ⟨hz, hb⟩ | ⟨hnz2, d2, hg2⟩
      · unfold rLn2
        rw [if_pos hz]
        exact ⟨Or.inl ⟨k0, hb⟩, fun z => absurd k0 z⟩
      · unfold rLn2
        rw [if_neg hnz2]
        obtain ⟨c1, c2, c3, c4, c5, c6⟩ := hg2
        have lc2 := c4.2.2.1
        have lr2 := c5.2.1
        have c4c := c4.2.2.2.1
        have c4d := c4.2.2.2.2
        have c5c := c5.2.2.1
        have c5d := c5.2.2.2
        have hYv : (rAt1 Y.2).2 = Y.2.2 := rfl
        rw [hYv] at lr2 c5c c5d
        obtain ⟨p1, p2, p3, p4, p5, p6, p7, p8⟩ := c1
        have ul := Int32.toNat_toInt U.2.2.2.2
        have f1 : (cAdd 2 0 U).2.2 = (U.2.2.1.set U.2.2.2.2.toNatClampNeg 2, U.2.2.2.1.set U.2.2.2.2.toNatClampNeg 0, U.2.2.2.2 + 1) := if_pos (by show U.2.2.2.2.toInt ≤ 120; omega)
        have fl : (U.2.2.2.2 + 1).toInt = U.2.2.2.2.toInt + 1 := by rw [kd_add (by omega) (by omega), k1]
        have epl : (S2.2.2.2.2 - 1).toInt = T.2.2.2.2.toInt := by rw [e1c, kd_sub (by omega) (by omega), k1]; omega
        have tp := Int32.toNat_toInt (S2.2.2.2.2 - 1)
        have g1 : (cAim (S2.2.2.2.2 - 1) (cAdd 2 0 U)).2.2 = (U.2.2.1.set U.2.2.2.2.toNatClampNeg 2, (U.2.2.2.1.set U.2.2.2.2.toNatClampNeg 0).set (S2.2.2.2.2 - 1).toNatClampNeg (U.2.2.2.2 + 1), U.2.2.2.2 + 1) := by
          show lAim (S2.2.2.2.2 - 1) (cAdd 2 0 U).2.2 = _
          rw [f1]
          exact if_pos ⟨by omega, by show (S2.2.2.2.2 - 1).toInt < (U.2.2.2.2 + 1).toInt; omega⟩
        have gp : (cAim (S2.2.2.2.2 - 1) (cAdd 2 0 U)).1 = U.1 := rfl
        have gf : (cAim (S2.2.2.2.2 - 1) (cAdd 2 0 U)).2.1 = U.2.1 := rfl
        generalize hW : cAim (S2.2.2.2.2 - 1) (cAdd 2 0 U) = W at *
        have g1a : W.2.2.1 = U.2.2.1.set U.2.2.2.2.toNatClampNeg 2 := congrArg (fun z => z.1) g1
        have g1b : W.2.2.2.1 = (U.2.2.2.1.set U.2.2.2.2.toNatClampNeg 0).set (S2.2.2.2.2 - 1).toNatClampNeg (U.2.2.2.2 + 1) := congrArg (fun z => z.2.1) g1
        have g1c : W.2.2.2.2 = U.2.2.2.2 + 1 := congrArg (fun z => z.2.2) g1
        obtain ⟨sy1, sy2, sy3⟩ := sSet (v := Z.1.2.1) h10 h12.1 (by omega)
        obtain ⟨sz1, sz2, sz3⟩ := sSet (v := (rAt1 Y.2).2.1) sy1 h12.1 (by omega)
        obtain ⟨se1, se2, se3⟩ := sSet (v := V.2.2.1) h11 h12.1 (by omega)
        refine ⟨Or.inr ⟨by show ¬ ((1 : Int32).toInt = 0); omega, l ++ [(some d, d2)], ?_⟩, fun _ => by rw [gp]; omega⟩
        have st1 : ∀ j : Nat, (j : Int) < U.2.2.2.2.toInt → W.2.2.1.getD j 0 = U.2.2.1.getD j 0 := fun j hj => by rw [g1a, gD_set (by omega), if_neg (by omega)]
        have wi1 : ∀ j : Nat, (j : Int) < U.2.2.2.2.toInt → j ≠ (S2.2.2.2.2 - 1).toNatClampNeg → W.2.2.2.1.getD j 0 = U.2.2.2.1.getD j 0 := fun j hj hne => by
          rw [g1b, gD_set (by simpa using (by omega : (S2.2.2.2.2 - 1).toNatClampNeg < U.2.2.2.1.length)), if_neg hne, gD_set (by omega), if_neg (by omega)]
        have s2t : ∀ j : Nat, (j : Int) < T.2.2.2.2.toInt → S2.2.2.1.getD j 0 = T.2.2.1.getD j 0 ∧ S2.2.2.2.1.getD j 0 = T.2.2.2.1.getD j 0 := fun j hj => by
          rw [e1a, e1b, gD_set (by omega), gD_set (by omega), if_neg (by omega), if_neg (by omega)]
          exact ⟨rfl, rfl⟩
        have all : ∀ j : Nat, (j : Int) < T.2.2.2.2.toInt → W.2.2.1.getD j 0 = T.2.2.1.getD j 0 ∧ W.2.2.2.1.getD j 0 = T.2.2.2.1.getD j 0 := fun j hj => by
          have a := c4c j (by omega)
          have b := s2t j hj
          exact ⟨(st1 j (by omega)).trans (a.1.trans b.1), (wi1 j (by omega) (by omega)).trans (a.2.trans b.2)⟩
        refine ⟨by show W.1 = _; rw [gp]; exact p1, by rw [gf]; exact p2, by rw [gp]; exact p3, ?_, ?_, ⟨?_, ?_, p8⟩, ⟨sa1, sz1, se1⟩, ⟨by show 0 ≤ (Z.2.1 + 1).toInt; omega, by show 2 * (Z.2.1 + 1).toInt ≤ W.1.toInt + 1; rw [gp]; omega⟩, ?_, ?_, ?_⟩
        · rw [g1c, gp]; omega
        · rw [gp]; exact p5
        · rw [g1a]; simpa using p6
        · rw [g1b]; simpa using p7
        · refine cLy_snoc l 0 (cLy_congr l 0 S.2.2.2.2.toInt.toNat (fun j hj => ?_) hc).1 ?_
          · have a := all j (by omega)
            have b := b4.2.2.2.1 j (by omega)
            exact ⟨a.1.trans b.1, a.2.trans b.2⟩
          · refine ⟨fun j hj => ?_, ?_, ?_, fun j hj => ?_, ?_, ?_⟩
            · have a := all (S.2.2.2.2.toInt.toNat + j) (by omega)
              have b := b4.2.2.2.2 j hj
              exact ⟨by rw [a.1]; exact b.1, by rw [a.2]; exact b.2⟩
            · have e : S.2.2.2.2.toInt.toNat + d.length = T.2.2.2.2.toNatClampNeg := by omega
              rw [e, st1 _ (by omega), (c4c _ (by omega)).1, e1a, gD_set (by omega), if_pos rfl]
              exact k3
            · have e : S.2.2.2.2.toInt.toNat + d.length = (S2.2.2.2.2 - 1).toNatClampNeg := by omega
              rw [g1b, e, gD_set (by simpa using (by omega : (S2.2.2.2.2 - 1).toNatClampNeg < U.2.2.2.1.length)), if_pos rfl]
              omega
            · have a1 := st1 (S.2.2.2.2.toInt.toNat + d.length + 1 + j) (by omega)
              have a2 := wi1 (S.2.2.2.2.toInt.toNat + d.length + 1 + j) (by omega) (by omega)
              have b := c4d j hj
              rw [show S2.2.2.2.2.toInt.toNat + j = S.2.2.2.2.toInt.toNat + d.length + 1 + j by rw [e1c]; omega] at b
              exact ⟨by rw [a1]; exact b.1, by rw [a2]; exact b.2⟩
            · have e : S.2.2.2.2.toInt.toNat + d.length + 1 + d2.length = U.2.2.2.2.toNatClampNeg := by rw [e1c] at lc2; omega
              rw [e, g1a, gD_set (by omega), if_pos rfl]
              exact k2
            · show S.2.2.2.2.toInt.toNat + d.length + 1 + d2.length + 1 = W.2.2.2.2.toInt.toNat
              rw [g1c]
              rw [e1c] at lc2
              omega
        · refine rLy_snoc l 0 0 (rLy_congr l 0 0 Z.2.1.toInt.toNat Z.1.2.1.toInt.toNat (fun m hm => ⟨sa3 m hm, (sz3 m hm).trans (sy3 m hm), se3 m hm⟩) (fun m hm => ?_) hr).1 ?_
          · exact (c5c m (by omega)).trans (b5.2.2.1 m (by omega))
          · refine ⟨⟨?_, ?_, ?_⟩, fun j hj => ?_, fun j hj => ?_, ?_, ?_⟩
            · rw [sa2]; omega
            · rw [sz2]; show Y.2.2.1.toInt = _; omega
            · rw [se2]; omega
            · exact (c5c _ (by omega)).trans (b5.2.2.2 j hj)
            · have b := c5d j hj
              rw [show Y.2.2.1.toInt.toNat + j = Z.1.2.1.toInt.toNat + d.length + j by omega] at b
              exact b
            · show Z.2.1.toInt.toNat + 1 = (Z.2.1 + 1).toInt.toNat
              omega
            · show Z.1.2.1.toInt.toNat + d.length + d2.length = V.2.2.1.toInt.toNat
              omega
        · intro x hx
          rcases List.mem_append.mp hx with hx | hx
          · exact hok x hx
          · have hx := List.mem_singleton.mp hx
            subst hx
            exact ⟨c6, fun a ha => by cases ha; exact b6⟩
    · -- a line without
      rw [cTk_f h63, rTk_f (by rw [hx]; exact h63)]
      dsimp only
      rw [if_pos k0, if_pos k0]
      unfold rLn2
      rw [if_neg (by show ¬ ((1 : Int32).toInt = 0); omega)]
      have tl := Int32.toNat_toInt T.2.2.2.2
      have e1 : (cAdd 2 0 T).2.2 = (T.2.2.1.set T.2.2.2.2.toNatClampNeg 2, T.2.2.2.1.set T.2.2.2.2.toNatClampNeg 0, T.2.2.2.2 + 1) := if_pos (by show T.2.2.2.2.toInt ≤ 120; omega)
      have el : (T.2.2.2.2 + 1).toInt = T.2.2.2.2.toInt + 1 := by rw [kd_add (by omega) (by omega), k1]
      have gp : (cAdd 2 0 T).1 = T.1 := rfl
      have gf : (cAdd 2 0 T).2.1 = T.2.1 := rfl
      generalize hW : cAdd 2 0 T = W at *
      have g1a : W.2.2.1 = T.2.2.1.set T.2.2.2.2.toNatClampNeg 2 := congrArg (fun z => z.1) e1
      have g1b : W.2.2.2.1 = T.2.2.2.1.set T.2.2.2.2.toNatClampNeg 0 := congrArg (fun z => z.2.1) e1
      have g1c : W.2.2.2.2 = T.2.2.2.2 + 1 := congrArg (fun z => z.2.2) e1
      obtain ⟨sy1, sy2, sy3⟩ := sSet (v := Z.1.2.1) h10 h12.1 (by omega)
      obtain ⟨se1, se2, se3⟩ := sSet (v := Y.2.2.1) h11 h12.1 (by omega)
      have all : ∀ j : Nat, (j : Int) < T.2.2.2.2.toInt → W.2.2.1.getD j 0 = T.2.2.1.getD j 0 ∧ W.2.2.2.1.getD j 0 = T.2.2.2.1.getD j 0 := fun j hj => by
        rw [g1a, g1b, gD_set (by omega), gD_set (by omega), if_neg (by omega), if_neg (by omega)]
        exact ⟨rfl, rfl⟩
      refine ⟨Or.inr ⟨by show ¬ ((1 : Int32).toInt = 0); omega, l ++ [(none, d)], ?_⟩, fun _ => by rw [gp]; exact b3⟩
      refine ⟨by rw [gp]; exact q1, by rw [gf]; exact q2, by rw [gp]; exact q3, ?_, by rw [gp]; exact q5, ⟨?_, ?_, q8⟩, ⟨sa1, sy1, se1⟩, ⟨by show 0 ≤ (Z.2.1 + 1).toInt; omega, by show 2 * (Z.2.1 + 1).toInt ≤ W.1.toInt + 1; rw [gp]; omega⟩, ?_, ?_, ?_⟩
      · rw [g1c, gp]; omega
      · rw [g1a]; simpa using q6
      · rw [g1b]; simpa using q7
      · refine cLy_snoc l 0 (cLy_congr l 0 S.2.2.2.2.toInt.toNat (fun j hj => ?_) hc).1 ?_
        · have a := all j (by omega)
          have b := b4.2.2.2.1 j (by omega)
          exact ⟨a.1.trans b.1, a.2.trans b.2⟩
        · refine ⟨fun j hj => ?_, ?_, ?_⟩
          · have a := all (S.2.2.2.2.toInt.toNat + j) (by omega)
            have b := b4.2.2.2.2 j hj
            exact ⟨by rw [a.1]; exact b.1, by rw [a.2]; exact b.2⟩
          · have e : S.2.2.2.2.toInt.toNat + d.length = T.2.2.2.2.toNatClampNeg := by omega
            rw [e, g1a, gD_set (by omega), if_pos rfl]
            exact k2
          · show S.2.2.2.2.toInt.toNat + d.length + 1 = W.2.2.2.2.toInt.toNat
            rw [g1c]
            omega
      · refine rLy_snoc l 0 0 (rLy_congr l 0 0 Z.2.1.toInt.toNat Z.1.2.1.toInt.toNat (fun m hm => ⟨sa3 m hm, sy3 m hm, se3 m hm⟩) (fun m hm => b5.2.2.1 m (by omega)) hr).1 ?_
        refine ⟨⟨?_, ?_, ?_⟩, b5.2.2.2, ?_, ?_⟩
        · rw [sa2]; omega
        · rw [sy2]; omega
        · rw [se2]; omega
        · show Z.2.1.toInt.toNat + 1 = (Z.2.1 + 1).toInt.toNat
          omega
        · show Z.1.2.1.toInt.toNat + d.length = Y.2.2.1.toInt.toNat
          omega
      · intro x hx
        rcases List.mem_append.mp hx with hx | hx
        · exact hok x hx
        · have hx := List.mem_singleton.mp hx
          subst hx
          exact ⟨b6, fun a ha => by cases ha⟩
theorem sim_lpl (hn : n.toInt ≤ 120) (k : Nat) : ∀ (k' : Nat) (S : cS) (X : Int32 × rL), sLR n S X → (¬ (X.1.toInt = 0) → (n.toInt - S.1.toInt).toNat ≤ k ∧ (n.toInt - S.1.toInt).toNat ≤ k') → sLR n (cLpL t n k S) (rLpL t n k' X) := by
  have k0 : (0 : Int32).toInt = 0 := by decide
  have k59 : (59 : Int32).toInt = 59 := by decide
  have km : (-1 : Int32).toInt = -1 := by decide
  have bad : ∀ (k : Nat) (S : cS), S.2.1.toInt ≠ 0 → cLpL t n k S = S := fun k S hb => by
    cases k with
    | zero => rfl
    | succ k =>
      have e1 : cLpL t n (k + 1) S = (if (cTk t n 59 S).1.toInt = 0 then (cTk t n 59 S).2 else cLpL t n k (cLin t n (cTk t n 59 S).2)) := rfl
      rw [e1, cTk_f (by rw [cHr_1 hb]; omega)]
      exact if_pos k0
  have badr : ∀ (k : Nat) (X : Int32 × rL), X.1.toInt = 0 → rLpL t n k X = X := fun k X hz => by
    cases k with
    | zero => rfl
    | succ k => exact if_pos hz
  have out : ∀ (k k' : Nat) (S : cS) (X : Int32 × rL) (l : List kLn), ¬ (X.1.toInt = 0) → sL n S X.2 l → ¬ ((cHr t n S.1 S.2.1).toInt = (59 : Int32).toInt) → cLpL t n k S = S ∧ rLpL t n k' X = X := fun k k' S X l hz hl hne => by
    have hx : rHr t n X.2.1 = cHr t n S.1 S.2.1 := by
      unfold rHr
      rw [← hl.1]
      exact (cHr_0 hl.2.1).symm
    refine ⟨?_, ?_⟩
    · cases k with
      | zero => rfl
      | succ k =>
        have e1 : cLpL t n (k + 1) S = (if (cTk t n 59 S).1.toInt = 0 then (cTk t n 59 S).2 else cLpL t n k (cLin t n (cTk t n 59 S).2)) := rfl
        rw [e1, cTk_f hne]
        exact if_pos k0
    · cases k' with
      | zero => rfl
      | succ k' =>
        have e1 : rLpL t n (k' + 1) X = (if X.1.toInt = 0 then X else if (rTk t n 59 X.2.1).1.toInt = 0 then (X.1, ((rTk t n 59 X.2.1).2, X.2.2)) else rLpL t n k' (rLin t n ((rTk t n 59 X.2.1).2, X.2.2))) := rfl
        rw [e1, if_neg hz, rTk_f (by rw [hx]; exact hne)]
        exact if_pos k0
  induction k with
  | zero =>
    intro k' S X h hk
    rcases h with ⟨hz, hb⟩ | ⟨hz, l, hl⟩
    · rw [badr k' X hz]; exact Or.inl ⟨hz, hb⟩
    · have hne : ¬ ((cHr t n S.1 S.2.1).toInt = (59 : Int32).toInt) := fun e => by
        have := (cHr_at (by rw [e]; omega)).2
        have := (hk hz).1
        omega
      obtain ⟨a, b⟩ := out 0 k' S X l hz hl hne
      rw [a, b]
      exact Or.inr ⟨hz, l, hl⟩
  | succ k ih =>
    intro k' S X h hk
    rcases h with ⟨hz, hb⟩ | ⟨hz, l, hl⟩
    · rw [badr k' X hz, bad _ _ hb.2]; exact Or.inl ⟨hz, hb⟩
    · by_cases e : (cHr t n S.1 S.2.1).toInt = (59 : Int32).toInt
      · have hp := (cHr_at (by rw [e]; omega)).2
        have hx : rHr t n X.2.1 = cHr t n S.1 S.2.1 := by
          unfold rHr
          rw [← hl.1]
          exact (cHr_0 hl.2.1).symm
        cases k' with
        | zero =>
          have := (hk hz).2
          omega
        | succ k' =>
          have e1 : cLpL t n (k + 1) S = (if (cTk t n 59 S).1.toInt = 0 then (cTk t n 59 S).2 else cLpL t n k (cLin t n (cTk t n 59 S).2)) := rfl
          have e2 : rLpL t n (k' + 1) X = (if X.1.toInt = 0 then X else if (rTk t n 59 X.2.1).1.toInt = 0 then (X.1, ((rTk t n 59 X.2.1).2, X.2.2)) else rLpL t n k' (rLin t n ((rTk t n 59 X.2.1).2, X.2.2))) := rfl
          rw [e1, e2, if_neg hz, cTk_t e, rTk_t (by rw [hx]; exact e), if_neg (by decide : ¬ ((1 : Int32).toInt = 0)), if_neg (by decide : ¬ ((1 : Int32).toInt = 0))]
          dsimp only
          obtain ⟨h1, h2, h3, h4, h5, h6, h7, h8, h9, h10, h11⟩ := hl
          have ep := kp1 h3.1 hp
          have hl2 : sL n (cAt1 S) (rAt1 X.2.1, X.2.2) l := ⟨by show S.1 + 1 = X.2.1.1 + 1; rw [h1], h2, ⟨by show 0 ≤ (S.1 + 1).toInt; omega, by show (S.1 + 1).toInt ≤ n.toInt; omega⟩, ⟨h4.1, by show S.2.2.2.2.toInt ≤ (S.1 + 1).toInt + 1; omega⟩, ⟨h5.1, by show X.2.1.2.1.toInt ≤ (S.1 + 1).toInt; omega⟩, h6, h7, ⟨h8.1, by show 2 * X.2.2.1.toInt ≤ (S.1 + 1).toInt + 1; omega⟩, h9, h10, h11⟩
          obtain ⟨r1, r2⟩ := sim_lin (t := t) hn hl2 (by show S.2.2.2.2.toInt ≤ (S.1 + 1).toInt; omega) (by show 2 * X.2.2.1.toInt ≤ (S.1 + 1).toInt; omega)
          refine ih k' _ _ r1 (fun z => ?_)
          have a := r2 z
          have a : (S.1 + 1).toInt < (cLin t n (cAt1 S)).1.toInt := a
          obtain ⟨b1, b2⟩ := hk hz
          omega
      · obtain ⟨a, b⟩ := out (k + 1) k' S X l hz hl e
        rw [a, b]
        exact Or.inr ⟨hz, l, hl⟩
theorem sim_txt {st wi L A Y E : List Int32} (h0 : 0 ≤ n.toInt) (hn : n.toInt ≤ 120) (l1 : st.length = 121) (l2 : wi.length = 121) (l3 : L.length = 200) (l4 : A.length = 61) (l5 : Y.length = 61) (l6 : E.length = 61) : (cTxt t n st wi).1 = (rTxt t n L A Y E).2.1.1 ∧ (cOk n (cTxt t n st wi) ↔ rOk n (rTxt t n L A Y E)) ∧ (cOk n (cTxt t n st wi) → ∃ l, sL n (cTxt t n st wi) (rTxt t n L A Y E).2 l) := by
  have k0 : (0 : Int32).toInt = 0 := by decide
  have hl : sL n (0, 0, st, wi, 0) ((0, 0, L), 0, A, Y, E) [] := by
    refine ⟨rfl, k0, ⟨?_, ?_⟩, ⟨?_, ?_⟩, ⟨?_, ?_⟩, ⟨l1, l2, l3⟩, ⟨l4, l5, l6⟩, ⟨?_, ?_⟩, rfl, ⟨rfl, rfl⟩, fun x hx => absurd hx List.not_mem_nil⟩ <;> simp only [k0] <;> omega
  obtain ⟨r1, r2⟩ := sim_lin (t := t) hn hl (by show (0 : Int32).toInt ≤ (0 : Int32).toInt; omega) (by show 2 * (0 : Int32).toInt ≤ (0 : Int32).toInt; omega)
  have r := sim_lpl (t := t) hn n.toInt.toNat n.toInt.toNat _ _ r1 (fun z => by
    have a := r2 z
    have a : (0 : Int32).toInt < _ := a
    omega)
  have r : sLR n (cTxt t n st wi) (rTxt t n L A Y E) := r
  rcases r with ⟨hz, hb⟩ | ⟨hz, l, hl⟩
  · exact ⟨hb.1, ⟨fun z => absurd z.1 hb.2, fun z => absurd hz z.1⟩, fun z => absurd z.1 hb.2⟩
  · refine ⟨hl.1, ⟨fun z => ⟨hz, ?_⟩, fun z => ⟨hl.2.1, ?_⟩⟩, fun _ => ⟨l, hl⟩⟩
    · have := hl.2.2.1.2
      have := z.2
      rw [← hl.1]
      omega
    · have := z.2
      rw [← hl.1] at this
      omega
end SLN
end
section
/-! BOTH LAWS SAY THE SAME -/
def dRun (nm : List Int32) : List Int32 → List Int32 → List Int32
  | [], s => s
  | x :: d, s => dRun nm d (wOp nm x s)
def dVal (nm d : List Int32) : Int32 := (dRun nm d []).getD 0 0
def sayL (nm : List Int32) : List kLn → Int32
  | [] => 0
  | (none, d) :: _ => dVal nm d
  | (some a, d) :: r => if (dVal nm a).toInt = 0 then sayL nm r else dVal nm d
theorem dRun_snoc (nm : List Int32) : ∀ (d s : List Int32) (x : Int32), dRun nm (d ++ [x]) s = wOp nm x (dRun nm d s)
  | [], s, x => rfl
  | y :: d, s, x => dRun_snoc nm d (wOp nm y s) x
theorem wRun_at {L nm d : List Int32} {f : Nat} (h : rAt L f d) : ∀ n : Nat, n ≤ d.length → wRun L nm f n = dRun nm (d.take n) []
  | 0, _ => by rw [List.take_zero]; rfl
  | n + 1, hn => by
    have e : d.take (n + 1) = d.take n ++ [d.getD n 0] := by
      rw [List.take_succ, List.getElem?_eq_getElem (by omega), List.getD_eq_getElem?_getD, List.getElem?_eq_getElem (by omega)]
      rfl
    rw [e, dRun_snoc, ← wRun_at h n (by omega), ← h n (by omega)]
    rfl
theorem wVal_at {L nm d : List Int32} {f : Nat} {x y : Int32} (h : rAt L f d) (hx : x.toInt = (f : Int)) (hy : y.toInt = ((f + d.length : Nat) : Int)) : wVal L nm x y = dVal nm d := by
  unfold wVal dVal
  rw [show x.toInt.toNat = f by omega, show (y.toInt - x.toInt).toNat = d.length by omega, wRun_at h d.length (Nat.le_refl _), List.take_length]
theorem dHt_ne {d : List Int32} (h : dHt d 0 = some 1) : 1 ≤ d.length := by
  cases d with
  | nil => cases h
  | cons x d => exact Nat.succ_le_succ (Nat.zero_le _)
theorem wLaw_say2 {A Y E L nm : List Int32} : ∀ (l : List kLn) (m j c k e : Nat), rLy A Y E L j c l k e → k = j + m → (∀ x ∈ l, okLn x) → wLaw A Y E L nm m j = sayL nm l
  | [], m, j, c, k, e, h, hk, _ => by
    have h1 := h.1
    have hm : m = 0 := by omega
    subst hm
    rfl
  | (none, d) :: r, m, j, c, k, e, h, hk, ho => by
    obtain ⟨⟨h1, h2, h3⟩, h4, h5⟩ := h
    have := (rLy_congr r _ _ _ _ (fun _ _ => ⟨rfl, rfl, rfl⟩) (fun _ _ => rfl) h5).2.1
    cases m with
    | zero => omega
    | succ m =>
      have e1 : wLaw A Y E L nm (m + 1) j = (if (A.getD j 0).toInt < (Y.getD j 0).toInt ∧ (wVal L nm (A.getD j 0) (Y.getD j 0)).toInt = 0 then wLaw A Y E L nm m (j + 1) else wVal L nm (Y.getD j 0) (E.getD j 0)) := rfl
      rw [e1, if_neg (fun z => by have := z.1; omega)]
      exact wVal_at h4 h2 h3
  | (some a, d) :: r, m, j, c, k, e, h, hk, ho => by
    obtain ⟨⟨h1, h2, h3⟩, h4, h5, h6⟩ := h
    have := (rLy_congr r _ _ _ _ (fun _ _ => ⟨rfl, rfl, rfl⟩) (fun _ _ => rfl) h6).2.1
    have ha := dHt_ne ((ho _ List.mem_cons_self).2 a rfl)
    cases m with
    | zero => omega
    | succ m =>
      have e1 : wLaw A Y E L nm (m + 1) j = (if (A.getD j 0).toInt < (Y.getD j 0).toInt ∧ (wVal L nm (A.getD j 0) (Y.getD j 0)).toInt = 0 then wLaw A Y E L nm m (j + 1) else wVal L nm (Y.getD j 0) (E.getD j 0)) := rfl
      have e2 : wVal L nm (A.getD j 0) (Y.getD j 0) = dVal nm a := wVal_at h4 h1 h2
      have e3 : wVal L nm (Y.getD j 0) (E.getD j 0) = dVal nm d := wVal_at h5 h2 h3
      rw [e1, e2, e3]
      show _ = (if (dVal nm a).toInt = 0 then sayL nm r else dVal nm d)
      by_cases hz : (dVal nm a).toInt = 0
      · rw [if_pos ⟨by omega, hz⟩, if_pos hz]
        exact wLaw_say2 r m (j + 1) _ k e h6 (by omega) (fun x hx => ho x (List.mem_cons_of_mem _ hx))
      · rw [if_neg (fun z => hz z.2), if_neg hz]
/-- the class's stack beside a list -/
def lRel (S : List Int32 × Int32) (s : List Int32) : Prop := S.1.length = 121 ∧ S.2.toInt = s.length ∧ ∀ j : Nat, j < s.length → S.1.getD j 0 = s.getD j 0
theorem lRel_push {S : List Int32 × Int32} {s : List Int32} {v : Int32} (h : lRel S s) (hl : s.length ≤ 120) : lRel (lPush S v) (s ++ [v]) := by
  obtain ⟨h1, h2, h3⟩ := h
  have t := Int32.toNat_toInt S.2
  have k1 : (1 : Int32).toInt = 1 := by decide
  have e : lPush S v = (S.1.set S.2.toNatClampNeg v, S.2 + 1) := if_pos (by omega)
  rw [e]
  refine ⟨by simpa using h1, ?_, fun j hj => ?_⟩
  · dsimp only
    rw [kd_add (by omega) (by omega), k1, h2]
    simp
  · dsimp only
    rw [List.length_append] at hj
    have hj : j < s.length + 1 := hj
    rw [gD_set (by omega)]
    by_cases c : j = S.2.toNatClampNeg
    · rw [if_pos c, gD_r (by omega), show j - s.length = 0 by omega]
      rfl
    · rw [if_neg c, gD_l (by omega)]
      exact h3 j (by omega)
theorem gD_take {s : List Int32} {n j : Nat} (h : j < n) : (s.take n).getD j 0 = s.getD j 0 := by
  rw [List.getD_eq_getElem?_getD, List.getElem?_take_of_lt h, ← List.getD_eq_getElem?_getD]
theorem lRel_pop {S : List Int32 × Int32} {s : List Int32} (h : lRel S s) (hl : 1 ≤ s.length) : (lPop S).1 = s.getD (s.length - 1) 0 ∧ lRel (lPop S).2 (s.take (s.length - 1)) := by
  obtain ⟨h1, h2, h3⟩ := h
  have k1 : (1 : Int32).toInt = 1 := by decide
  have b := kd_bd S.2
  have e : lPop S = (S.1.getD (S.2 - 1).toNatClampNeg 0, (S.1, S.2 - 1)) := if_pos (by omega)
  have e1 : (S.2 - 1).toInt = S.2.toInt - 1 := by rw [kd_sub (by omega) (by omega), k1]
  have t := Int32.toNat_toInt (S.2 - 1)
  rw [e]
  refine ⟨?_, h1, ?_, fun j hj => ?_⟩
  · dsimp only
    rw [show (S.2 - 1).toNatClampNeg = s.length - 1 by omega]
    exact h3 _ (by omega)
  · dsimp only
    rw [e1, h2, List.length_take]
    omega
  · rw [List.length_take] at hj
    rw [gD_take (by omega)]
    exact h3 j (by omega)
theorem set_last {s : List Int32} {w : Int32} (h : 1 ≤ s.length) : s.set (s.length - 1) w = s.take (s.length - 1) ++ [w] := by
  have e : s = s.take (s.length - 1) ++ [s.getD (s.length - 1) 0] := by
    conv => lhs; rw [← List.take_length (l := s), show s.length = (s.length - 1) + 1 by omega, List.take_succ, List.getElem?_eq_getElem (by omega)]
    rw [List.getD_eq_getElem?_getD, List.getElem?_eq_getElem (by omega)]
    rfl
  have e2 : s.set (s.length - 1) w = (s.take (s.length - 1) ++ [s.getD (s.length - 1) 0]).set (s.length - 1) w := congrArg (fun z : List Int32 => z.set (s.length - 1) w) e
  rw [e2, List.set_append_right _ _ (by rw [List.length_take]; omega), List.length_take, show min (s.length - 1) s.length = s.length - 1 by omega, Nat.sub_self]
  rfl
theorem set_last2 {s : List Int32} {w : Int32} (h : 2 ≤ s.length) : (s.set (s.length - 2) w).take (s.length - 1) = s.take (s.length - 2) ++ [w] := by
  rw [List.take_set, show s.length - 2 = (s.take (s.length - 1)).length - 1 by rw [List.length_take]; omega, set_last (by rw [List.length_take]; omega), List.length_take, List.take_take, show min (min (s.length - 1) s.length - 1) (s.length - 1) = min (s.length - 1) s.length - 1 by omega]
theorem cJ_both {x a b : Int32} (h0 : 6 ≤ x.toInt) (h1 : x.toInt ≤ 15) : cJoin (eSg x) a b = rBoth x a b := by
  have hx : x = 6 ∨ x = 7 ∨ x = 8 ∨ x = 9 ∨ x = 10 ∨ x = 11 ∨ x = 12 ∨ x = 13 ∨ x = 14 ∨ x = 15 := by
    rcases (by omega : x.toInt = 6 ∨ x.toInt = 7 ∨ x.toInt = 8 ∨ x.toInt = 9 ∨ x.toInt = 10 ∨ x.toInt = 11 ∨ x.toInt = 12 ∨ x.toInt = 13 ∨ x.toInt = 14 ∨ x.toInt = 15) with h | h | h | h | h | h | h | h | h | h
    · exact Or.inl (kv42 (h.trans (by decide)))
    · exact Or.inr (Or.inl (kv42 (h.trans (by decide))))
    · exact Or.inr (Or.inr (Or.inl (kv42 (h.trans (by decide)))))
    · exact Or.inr (Or.inr (Or.inr (Or.inl (kv42 (h.trans (by decide))))))
    · exact Or.inr (Or.inr (Or.inr (Or.inr (Or.inl (kv42 (h.trans (by decide)))))))
    · exact Or.inr (Or.inr (Or.inr (Or.inr (Or.inr (Or.inl (kv42 (h.trans (by decide))))))))
    · exact Or.inr (Or.inr (Or.inr (Or.inr (Or.inr (Or.inr (Or.inl (kv42 (h.trans (by decide)))))))))
    · exact Or.inr (Or.inr (Or.inr (Or.inr (Or.inr (Or.inr (Or.inr (Or.inl (kv42 (h.trans (by decide))))))))))
    · exact Or.inr (Or.inr (Or.inr (Or.inr (Or.inr (Or.inr (Or.inr (Or.inr (Or.inl (kv42 (h.trans (by decide)))))))))))
    · exact Or.inr (Or.inr (Or.inr (Or.inr (Or.inr (Or.inr (Or.inr (Or.inr (Or.inr (kv42 (h.trans (by decide)))))))))))
  rcases hx with h | h | h | h | h | h | h | h | h | h <;> subst h <;> rfl
theorem eSg_ne {x : Int32} (h0 : 6 ≤ x.toInt) (h1 : x.toInt ≤ 15) : (eSg x).toInt ≠ 0 ∧ (eSg x).toInt ≠ 1 ∧ (eSg x).toInt ≠ 2 ∧ (eSg x).toInt ≠ 3 ∧ (eSg x).toInt ≠ 33 ∧ (eSg x).toInt ≠ 126 := by
  unfold eSg
  have k1 : (124 : Int32).toInt = 124 := by decide
  have k2 : (38 : Int32).toInt = 38 := by decide
  have k3 : (60 : Int32).toInt = 60 := by decide
  have k4 : (61 : Int32).toInt = 61 := by decide
  have k5 : (62 : Int32).toInt = 62 := by decide
  have k6 : (43 : Int32).toInt = 43 := by decide
  have k7 : (45 : Int32).toInt = 45 := by decide
  have k8 : (42 : Int32).toInt = 42 := by decide
  have k9 : (47 : Int32).toInt = 47 := by decide
  have k10 : (37 : Int32).toInt = 37 := by decide
  repeat' split
  all_goals omega
section LST
variable {st wi nm : List Int32} {len : Int32}
theorem l_step {n : Nat} {P : Int32} {S : List Int32 × Int32} {s : List Int32} {x : Int32} {k1 : Nat} (h0 : 0 ≤ P.toInt) (h1 : P.toInt < len.toInt) (hS : lRel S s) (hl : s.length ≤ 120) (e1 : st.getD P.toNatClampNeg 0 = eSt x) (e2 : wi.getD P.toNatClampNeg 0 = eWi x) (hk : kEff x s.length = some k1) : ∃ S1, lRel S1 (wOp nm x s) ∧ (wOp nm x s).length = k1 ∧ lRun st wi nm len (n + 1) P S = lRun st wi nm len n (P + 1) S1 := by
  have c0 : (0 : Int32).toInt = 0 := by decide
  have c1 : (1 : Int32).toInt = 1 := by decide
  have c33 : (33 : Int32).toInt = 33 := by decide
  have c126 : (126 : Int32).toInt = 126 := by decide
  have eq : lRun st wi nm len (n + 1) P S = (if 0 ≤ P.toInt ∧ P.toInt < len.toInt then
      (if (st.getD P.toNatClampNeg 0).toInt = 0 then lRun st wi nm len n (P + 1) (lPush S (wi.getD P.toNatClampNeg 0))
      else if (st.getD P.toNatClampNeg 0).toInt = 1 then lRun st wi nm len n (P + 1) (lPush S (if 0 ≤ (wi.getD P.toNatClampNeg 0).toInt ∧ (wi.getD P.toNatClampNeg 0).toInt < 6 then nm.getD (wi.getD P.toNatClampNeg 0).toNatClampNeg 0 else 0))
      else if (st.getD P.toNatClampNeg 0).toInt = 2 then (lPop S).1
      else if (st.getD P.toNatClampNeg 0).toInt = 3 then lRun st wi nm len n (if (lPop S).1.toInt = 0 then wi.getD P.toNatClampNeg 0 else P + 1) (lPop S).2
      else if (st.getD P.toNatClampNeg 0).toInt = 33 then lRun st wi nm len n (P + 1) (lPush (lPop S).2 (if (lPop S).1.toInt = 0 then 1 else 0))
      else if (st.getD P.toNatClampNeg 0).toInt = 126 then lRun st wi nm len n (P + 1) (lPush (lPop S).2 (-(lPop S).1))
      else lRun st wi nm len n (P + 1) (lPush (lPop (lPop S).2).2 (cJoin (st.getD P.toNatClampNeg 0) (lPop (lPop S).2).1 (lPop S).1)))
    else 0) := rfl
  rw [eq, if_pos ⟨h0, h1⟩, e1, e2]
  unfold kEff at hk
  split at hk
  next hp =>
    cases hk
    have hw : wOp nm x s = s ++ [if 18 ≤ x.toInt then x - 18 else nm.getD x.toNatClampNeg 0] := if_pos (by omega)
    rw [hw]
    by_cases h18 : 18 ≤ x.toInt
    · have a1 : eSt x = 0 := if_pos h18
      have a2 : eWi x = x - 18 := if_pos h18
      rw [a1, a2, if_pos c0, if_pos h18]
      exact ⟨_, lRel_push hS hl, by rw [List.length_append]; rfl, rfl⟩
    · have a1 : eSt x = 1 := by unfold eSt; rw [if_neg h18, if_pos (by omega)]
      have a2 : eWi x = x := by unfold eWi; rw [if_neg h18, if_pos (by omega)]
      rw [a1, a2, if_neg (by decide : ¬ ((1 : Int32).toInt = 0)), if_pos c1, if_pos (⟨by omega, by omega⟩ : 0 ≤ x.toInt ∧ x.toInt < 6), if_neg h18]
      exact ⟨_, lRel_push hS hl, by rw [List.length_append]; rfl, rfl⟩
  next hp =>
    split at hk
    next hu =>
      split at hk
      next hk1 =>
        cases hk
        obtain ⟨p1, p2⟩ := lRel_pop hS hk1
        have hw : wOp nm x s = s.set (s.length - 1) (if x.toInt = 17 then -(s.getD (s.length - 1) 0) else if (s.getD (s.length - 1) 0).toInt = 0 then 1 else 0) := by
          unfold wOp
          rw [if_neg (by omega), if_pos hu]
        rw [hw, set_last hk1]
        have hlen : (s.take (s.length - 1)).length ≤ 120 := by rw [List.length_take]; omega
        rcases hu with hu | hu
        · have a1 : eSt x = 33 := by have := kv42 (x := x) (b := 16) (hu.trans (by decide)); subst this; decide
          rw [a1, if_neg (by decide : ¬ ((33 : Int32).toInt = 0)), if_neg (by decide : ¬ ((33 : Int32).toInt = 1)), if_neg (by decide : ¬ ((33 : Int32).toInt = 2)), if_neg (by decide : ¬ ((33 : Int32).toInt = 3)), if_pos c33, p1, if_neg (by omega : ¬ (x.toInt = 17))]
          exact ⟨_, lRel_push p2 hlen, by rw [List.length_append, List.length_take]; show min (s.length - 1) s.length + 1 = _; omega, rfl⟩
        · have a1 : eSt x = 126 := by have := kv42 (x := x) (b := 17) (hu.trans (by decide)); subst this; decide
          rw [a1, if_neg (by decide : ¬ ((126 : Int32).toInt = 0)), if_neg (by decide : ¬ ((126 : Int32).toInt = 1)), if_neg (by decide : ¬ ((126 : Int32).toInt = 2)), if_neg (by decide : ¬ ((126 : Int32).toInt = 3)), if_neg (by decide : ¬ ((126 : Int32).toInt = 33)), if_pos c126, p1, if_pos hu]
          exact ⟨_, lRel_push p2 hlen, by rw [List.length_append, List.length_take]; show min (s.length - 1) s.length + 1 = _; omega, rfl⟩
      next => cases hk
    next hu =>
      split at hk
      next hb =>
        split at hk
        next hk2 =>
          cases hk
          obtain ⟨p1, p2⟩ := lRel_pop hS (by omega)
          have hl1 : (s.take (s.length - 1)).length = s.length - 1 := by rw [List.length_take]; omega
          obtain ⟨q1, q2⟩ := lRel_pop p2 (by omega)
          rw [hl1, gD_take (by omega), show s.length - 1 - 1 = s.length - 2 by omega] at q1
          rw [hl1, List.take_take, show min (s.length - 1 - 1) (s.length - 1) = s.length - 2 by omega] at q2
          have hw : wOp nm x s = (s.set (s.length - 2) (rBoth x (s.getD (s.length - 2) 0) (s.getD (s.length - 1) 0))).take (s.length - 1) := by
            unfold wOp
            rw [if_neg (by omega), if_neg hu]
          have a1 : eSt x = eSg x := by unfold eSt; rw [if_neg (by omega), if_neg (by omega)]
          obtain ⟨n0, n1, n2, n3, n4, n5⟩ := eSg_ne hb.1 hb.2
          rw [hw, set_last2 hk2, a1, if_neg n0, if_neg n1, if_neg n2, if_neg n3, if_neg n4, if_neg n5, p1, q1, cJ_both hb.1 hb.2]
          exact ⟨_, lRel_push q2 (by rw [List.length_take]; omega), by rw [List.length_append, List.length_take]; show min (s.length - 2) s.length + 1 = _; omega, rfl⟩
        next => cases hk
      next => cases hk
theorem l_codes (hlen : len.toInt ≤ 121) : ∀ (d : List Int32) (n : Nat) (P : Int32) (S : List Int32 × Int32) (s : List Int32) (k1 : Nat), 0 ≤ P.toInt → P.toInt + d.length ≤ len.toInt → lRel S s → s.length ≤ P.toInt.toNat → cAt st wi P.toInt.toNat d → dHt d s.length = some k1 → ∃ P1 S1, P1.toInt = P.toInt + d.length ∧ lRel S1 (dRun nm d s) ∧ (dRun nm d s).length = k1 ∧ lRun st wi nm len (n + d.length) P S = lRun st wi nm len n P1 S1
  | [], n, P, S, s, k1, h0, h1, hS, hl, hc, hk => by
    have hk : some s.length = some k1 := hk
    cases hk
    exact ⟨P, S, by simp, hS, rfl, rfl⟩
  | x :: d, n, P, S, s, k1, h0, h1, hS, hl, hc, hk => by
    have hk : (kEff x s.length).bind (dHt d) = some k1 := hk
    have hlx : (x :: d).length = d.length + 1 := rfl
    rw [hlx] at h1
    have t := Int32.toNat_toInt P
    cases e : kEff x s.length with
    | none => rw [e] at hk; cases hk
    | some k2 =>
      rw [e, Option.bind_some] at hk
      have a : st.getD P.toNatClampNeg 0 = eSt x ∧ wi.getD P.toNatClampNeg 0 = eWi x := by
        have a := hc 0 (by rw [hlx]; omega)
        rw [Nat.add_zero, t] at a
        exact a
      obtain ⟨S1, r1, r2, r3⟩ := l_step (len := len) (x := x) (n := n + d.length) (nm := nm) h0 (by omega) hS (by omega) a.1 a.2 e
      have c1 : (1 : Int32).toInt = 1 := by decide
      have eP : (P + 1).toInt = P.toInt + 1 := by rw [kd_add (by omega) (by omega), c1]
      have hke : k2 ≤ s.length + 1 := by
        unfold kEff at e
        split at e
        · cases e; omega
        · split at e
          · split at e
            · cases e; omega
            · cases e
          · split at e
            · split at e
              · cases e; omega
              · cases e
            · cases e
      obtain ⟨P1, S2, u1, u2, u3, u4⟩ := l_codes hlen d n (P + 1) S1 (wOp nm x s) k1 (by omega) (by omega) r1 (by omega) (fun j hj => by
        have b := hc (j + 1) (by rw [hlx]; omega)
        rw [show P.toInt.toNat + (j + 1) = (P + 1).toInt.toNat + j by omega] at b
        exact b) (by rw [r2]; exact hk)
      refine ⟨P1, S2, by rw [hlx]; omega, u2, u3, ?_⟩
      rw [hlx, show n + (d.length + 1) = n + d.length + 1 by omega, r3, u4]
theorem l_lines (hlen : len.toInt ≤ 121) : ∀ (l : List kLn) (n : Nat) (P : Int32) (S : List Int32 × Int32), 0 ≤ P.toInt → (len.toInt - P.toInt).toNat ≤ n → lRel S [] → cLy st wi P.toInt.toNat l len.toInt.toNat → (∀ x ∈ l, okLn x) → lRun st wi nm len n P S = sayL nm l
  | [], n, P, S, h0, hn, hS, hc, _ => by
    have hc : P.toInt.toNat = len.toInt.toNat := hc
    cases n with
    | zero => rfl
    | succ n =>
      unfold lRun
      exact if_neg (by omega)
  | (none, d) :: r, n, P, S, h0, hn, hS, hc, ho => by
    obtain ⟨h1, h2, h3⟩ := hc
    have hle := (cLy_congr r _ _ (fun _ _ => ⟨rfl, rfl⟩) h3).2
    have hd := (ho _ List.mem_cons_self).1
    obtain ⟨P1, S1, u1, u2, u3, u4⟩ := l_codes (nm := nm) hlen d (n - d.length) P S [] 1 h0 (by omega) hS (Nat.zero_le _) h1 hd
    rw [show n - d.length + d.length = n by omega] at u4
    rw [u4]
    obtain ⟨m, hm⟩ : ∃ m, n - d.length = m + 1 := ⟨n - d.length - 1, by omega⟩
    have t := Int32.toNat_toInt P1
    have e1 : (st.getD P1.toNatClampNeg 0).toInt = 2 := by rw [show P1.toNatClampNeg = P.toInt.toNat + d.length by omega]; exact h2
    rw [hm]
    unfold lRun
    rw [if_pos (by omega), if_neg (by omega), if_neg (by omega), if_pos e1]
    have p := (lRel_pop u2 (by omega)).1
    rw [u3] at p
    exact p
  | (some a, d) :: r, n, P, S, h0, hn, hS, hc, ho => by
    obtain ⟨h1, h2, h3, h4, h5, h6⟩ := hc
    have hle := (cLy_congr r _ _ (fun _ _ => ⟨rfl, rfl⟩) h6).2
    have hd := (ho _ List.mem_cons_self).1
    have ha := (ho _ List.mem_cons_self).2 a rfl
    obtain ⟨P1, S1, u1, u2, u3, u4⟩ := l_codes (nm := nm) hlen a (n - a.length) P S [] 1 h0 (by omega) hS (Nat.zero_le _) h1 ha
    rw [show n - a.length + a.length = n by omega] at u4
    rw [u4]
    obtain ⟨m, hm⟩ : ∃ m, n - a.length = m + 1 := ⟨n - a.length - 1, by omega⟩
    have t := Int32.toNat_toInt P1
    have c1 : (1 : Int32).toInt = 1 := by decide
    have e1 : (st.getD P1.toNatClampNeg 0).toInt = 3 := by rw [show P1.toNatClampNeg = P.toInt.toNat + a.length by omega]; exact h2
    have e2 : (wi.getD P1.toNatClampNeg 0).toInt = ((P.toInt.toNat + a.length + 1 + d.length + 1 : Nat) : Int) := by rw [show P1.toNatClampNeg = P.toInt.toNat + a.length by omega]; exact h3
    obtain ⟨p, q⟩ := lRel_pop u2 (by omega)
    rw [u3] at p q
    have q : lRel (lPop S1).2 [] := by
      rw [Nat.sub_self, List.take_zero] at q
      exact q
    have hv : (lPop S1).1 = dVal nm a := p
    rw [hm]
    have eq : lRun st wi nm len (m + 1) P1 S1 = lRun st wi nm len m (if (lPop S1).1.toInt = 0 then wi.getD P1.toNatClampNeg 0 else P1 + 1) (lPop S1).2 := by
      conv => lhs; unfold lRun
      rw [if_pos (by omega), if_neg (by omega), if_neg (by omega), if_neg (by omega), if_pos e1]
    rw [eq, hv]
    show _ = (if (dVal nm a).toInt = 0 then sayL nm r else dVal nm d)
    by_cases hz : (dVal nm a).toInt = 0
    · rw [if_pos hz, if_pos hz]
      exact l_lines hlen r m _ _ (by omega) (by omega) q (by rw [show (wi.getD P1.toNatClampNeg 0).toInt.toNat = P.toInt.toNat + a.length + 1 + d.length + 1 by omega]; exact h6) (fun x hx => ho x (List.mem_cons_of_mem _ hx))
    · rw [if_neg hz, if_neg hz]
      have eP : (P1 + 1).toInt = P1.toInt + 1 := by rw [kd_add (by omega) (by omega), c1]
      obtain ⟨P2, S2, v1, v2, v3, v4⟩ := l_codes (nm := nm) hlen d (m - d.length) (P1 + 1) (lPop S1).2 [] 1 (by omega) (by omega) q (Nat.zero_le _) (by rw [show (P1 + 1).toInt.toNat = P.toInt.toNat + a.length + 1 by omega]; exact h4) hd
      rw [show m - d.length + d.length = m by omega] at v4
      rw [v4]
      obtain ⟨m2, hm2⟩ : ∃ m2, m - d.length = m2 + 1 := ⟨m - d.length - 1, by omega⟩
      have t2 := Int32.toNat_toInt P2
      have e3 : (st.getD P2.toNatClampNeg 0).toInt = 2 := by rw [show P2.toNatClampNeg = P.toInt.toNat + a.length + 1 + d.length by omega]; exact h5
      rw [hm2]
      unfold lRun
      rw [if_pos (by omega), if_neg (by omega), if_neg (by omega), if_pos e3]
      have p2 := (lRel_pop v2 (by omega)).1
      rw [v3] at p2
      exact p2
end LST
/-- the law that class and reference have read: both say the same of any names, whatever lay on the stack -/
theorem law_same {n : Int32} {C : cS} {Z : rL} {l : List kLn} {A Y E L nm stk : List Int32} (hn : n.toInt ≤ 120) (h : sL n C Z l) (h1 : kCp Z.2.2.1 A Z.2.1.toInt.toNat) (h2 : kCp Z.2.2.2.1 Y Z.2.1.toInt.toNat) (h3 : kCp Z.2.2.2.2 E Z.2.1.toInt.toNat) (h4 : kCp Z.1.2.2 L Z.1.2.1.toInt.toNat) (hs : stk.length = 121) : lRun C.2.2.1 C.2.2.2.1 nm C.2.2.2.2 121 0 (stk, 0) = wLaw A Y E L nm Z.2.1.toInt.toNat 0 := by
  have k0 : (0 : Int32).toInt = 0 := by decide
  obtain ⟨g1, g2, g3, g4, g5, g6, g7, g8, g9, g10, g11⟩ := h
  rw [l_lines (by omega) l 121 0 (stk, 0) (by omega) (by omega) ⟨hs, by rw [k0]; rfl, fun j hj => absurd hj (Nat.not_lt_zero _)⟩ (by rw [k0]; exact g9) g11]
  exact (wLaw_say2 l _ 0 0 _ _ (rLy_congr l 0 0 _ _ (fun m hm => ⟨h1 m hm, h2 m hm, h3 m hm⟩) (fun m hm => h4 m hm) g10).1 (by omega) g11).symm
end
section
/-! THE LAW READ: the reference's code is well formed; the tape's bytes; the answers alike -/
theorem kHt_at {L d : List Int32} {f : Nat} (h : rAt L f d) : ∀ n k : Nat, n ≤ d.length → kHt L f n k = dHt (d.take n) k
  | 0, k, _ => by rw [List.take_zero]; rfl
  | n + 1, k, hn => by
    have e1 := kHt_at h n k (by omega)
    have e2 : d.take (n + 1) = d.take n ++ [d.getD n 0] := by
      rw [List.take_succ, List.getElem?_eq_getElem (by omega : n < d.length), List.getD_eq_getElem?_getD, List.getElem?_eq_getElem (by omega : n < d.length)]
      rfl
    show (kHt L f n k).bind (kEff (L.getD (f + n) 0)) = _
    rw [e1, h n (by omega), e2, dHt_app]
    cases dHt (d.take n) k with
    | none => rfl
    | some z =>
      show kEff (d.getD n 0) z = (kEff (d.getD n 0) z).bind some
      cases kEff (d.getD n 0) z <;> rfl
theorem kSeg_at {L d : List Int32} {f : Nat} {x y : Int} (h : rAt L f d) (hd : dHt d 0 = some 1) (hx : x = (f : Int)) (hy : y = ((f + d.length : Nat) : Int)) (h2 : f + d.length ≤ 200) : kSeg L x y := by
  refine ⟨by omega, by omega, by omega, ?_⟩
  rw [show x.toNat = f by omega, show y.toNat - f = d.length by omega, kHt_at h d.length 0 (Nat.le_refl _), List.take_length]
  exact hd
theorem code_rLy {A Y E L : List Int32} : ∀ (l : List kLn) (j c k e : Nat), rLy A Y E L j c l k e → e ≤ 200 → (∀ x ∈ l, okLn x) → ∀ m : Nat, j ≤ m → m < k → ((A.getD m 0).toInt < (Y.getD m 0).toInt → kSeg L (A.getD m 0).toInt (Y.getD m 0).toInt) ∧ kSeg L (Y.getD m 0).toInt (E.getD m 0).toInt
  | [], j, c, k, e, h, _, _, m, h1, h2 => by
    have := h.1
    omega
  | (none, d) :: r, j, c, k, e, h, he, ho, m, h1, h2 => by
    obtain ⟨⟨g1, g2, g3⟩, g4, g5⟩ := h
    have hr := (rLy_congr r _ _ _ _ (fun _ _ => ⟨rfl, rfl, rfl⟩) (fun _ _ => rfl) g5).2.2
    by_cases hm : m = j
    · subst hm
      exact ⟨fun z => by omega, kSeg_at g4 (ho _ List.mem_cons_self).1 g2 g3 (by omega)⟩
    · exact code_rLy r (j + 1) _ k e g5 he (fun x hx => ho x (List.mem_cons_of_mem _ hx)) m (by omega) h2
  | (some b, d) :: r, j, c, k, e, h, he, ho, m, h1, h2 => by
    obtain ⟨⟨g1, g2, g3⟩, g4, g5, g6⟩ := h
    have hr := (rLy_congr r _ _ _ _ (fun _ _ => ⟨rfl, rfl, rfl⟩) (fun _ _ => rfl) g6).2.2
    by_cases hm : m = j
    · subst hm
      exact ⟨fun _ => kSeg_at g4 ((ho _ List.mem_cons_self).2 b rfl) g1 g2 (by omega), kSeg_at g5 (ho _ List.mem_cons_self).1 g2 g3 (by omega)⟩
    · exact code_rLy r (j + 1) _ k e g6 he (fun x hx => ho x (List.mem_cons_of_mem _ hx)) m (by omega) h2
theorem code_law {n : Int32} {C : cS} {Z : rL} {l : List kLn} {i : Nat → Int32} {a : Nat → List Int32} (hn : n.toInt ≤ 120) (h : sL n C Z l) (e0 : i 7432 = Z.2.1) (h1 : kCp Z.2.2.1 (a 120) Z.2.1.toInt.toNat) (h2 : kCp Z.2.2.2.1 (a 121) Z.2.1.toInt.toNat) (h3 : kCp Z.2.2.2.2 (a 122) Z.2.1.toInt.toNat) (h4 : kCp Z.1.2.2 (a 123) Z.1.2.1.toInt.toNat) : kCode i a := by
  obtain ⟨g1, g2, g3, g4, g5, g6, g7, g8, g9, g10, g11⟩ := h
  intro j hj
  rw [e0] at hj
  exact code_rLy l 0 0 _ _ (rLy_congr l 0 0 _ _ (fun m hm => ⟨h1 m hm, h2 m hm, h3 m hm⟩) (fun m hm => h4 m hm) g10).1 (by omega) g11 j (Nat.zero_le _) (by omega)
section PK
variable {i : Nat → Int32} {a : Nat → List Int32} {q : Nat → List Int64} {r : Nat → Nat}
def kTB (i : Nat → Int32) (a : Nat → List Int32) : Prop := kTap i a ∧ kBy (a 99)
theorem kTB_fr {w : kW} {i1 : Nat → Int32} {a1 : Nat → List Int32} {q1 : Nat → List Int64} {r1 : Nat → Nat} (g : kG w i a q r i1 a1 q1 r1) (f : kFrT w = true) (h : kTB i a) : kTB i1 a1 := by
  refine ⟨kTap_fr g f h.1, ?_⟩
  unfold kFrT at f
  simp only [Bool.and_eq_true, Bool.not_eq_true'] at f
  rw [g.fa _ f.2.2.1]
  exact h.2
theorem kBy_to {i1 : Nat → Int32} {a1 : Nat → List Int32} {q1 : Nat → List Int64} {r1 : Nat → Nat} (h : kTB i a) (g1 : kG yw86_0 i a q r i1 a1 q1 r1) : kBy (a1 119) := by
  rw [g1.fa 119 rfl, ← h.1.2]
  exact h.2
theorem kBy_all {l : List Int32} (h : l.all (fun x => decide (0 ≤ x.toInt ∧ x.toInt ≤ 255)) = true) : kBy l := fun j => by
  by_cases hj : j < l.length
  · rw [List.getD_eq_getElem?_getD, List.getElem?_eq_getElem hj]
    exact of_decide_eq_true (List.all_eq_true.mp h _ (List.getElem_mem hj))
  · rw [List.getD_eq_getElem?_getD, List.getElem?_eq_none (by omega)]
    exact ⟨by decide, by decide⟩
theorem kBy_set {l : List Int32} {j : Nat} {x : Int32} (h : kBy l) (h0 : 0 ≤ x.toInt) (h1 : x.toInt ≤ 255) : kBy (l.set j x) := by
  intro m
  rw [List.getD_eq_getElem?_getD, List.getElem?_set]
  by_cases e : j = m
  · rw [if_pos e]
    by_cases hl : j < l.length
    · rw [if_pos hl]
      exact ⟨h0, h1⟩
    · rw [if_neg hl]
      exact ⟨by decide, by decide⟩
  · rw [if_neg e, ← List.getD_eq_getElem?_getD]
    exact h m
end PK
theorem st_feed2 {i i1 i2 : Nat → Int32} {a a1 a2 : Nat → List Int32} {q q1 q2 : Nat → List Int64} {r r1 r2 : Nat → Nat} {v w x1 : Int32} (h : kTB i a) (g1 : kG yw85_0 i a q r i1 a1 q1 r1) (P1 : (((v.toInt = (-1)) ∧ (¬ (((0 : Int) ≤ x1.toInt) ∧ (x1.toInt ≤ 255))) ∧ ((i1 6273).toInt = (i 6273).toInt)) ∨ (((0 : Int) ≤ x1.toInt) ∧ (x1.toInt ≤ 255) ∧ (((v.toInt = (-3)) ∧ ((120 : Int) ≤ (i 6273).toInt) ∧ ((i1 6273).toInt = (i 6273).toInt)) ∨ (((i 6273).toInt < 120) ∧ (v.toInt = ((i 6273).toInt + 1)) ∧ ((i1 6273).toInt = ((i 6273).toInt + 1)))))) ∧ ((((0 : Int) ≤ x1.toInt) ∧ (x1.toInt ≤ 255) ∧ ((i 6273).toInt < 120) → a1 99 = (a 99).set (i 6273).toNatClampNeg x1) ∧ (¬ (((0 : Int) ≤ x1.toInt) ∧ (x1.toInt ≤ 255) ∧ ((i 6273).toInt < 120)) → a1 99 = a 99))) (g2 : kG yw146_116 i1 a1 q1 r1 i2 a2 q2 r2) (P2 : (((w.toInt = (-1)) ∧ (¬ (((0 : Int) ≤ x1.toInt) ∧ (x1.toInt ≤ 255))) ∧ ((i2 7429).toInt = (i1 7429).toInt)) ∨ (((0 : Int) ≤ x1.toInt) ∧ (x1.toInt ≤ 255) ∧ (((w.toInt = (-3)) ∧ ((120 : Int) ≤ (i1 7429).toInt) ∧ ((i2 7429).toInt = (i1 7429).toInt)) ∨ (((i1 7429).toInt < 120) ∧ (w.toInt = ((i1 7429).toInt + 1)) ∧ ((i2 7429).toInt = ((i1 7429).toInt + 1)))))) ∧ ((((0 : Int) ≤ x1.toInt) ∧ (x1.toInt ≤ 255) ∧ ((i1 7429).toInt < 120) → a2 119 = (a1 119).set (i1 7429).toNatClampNeg x1) ∧ (¬ (((0 : Int) ≤ x1.toInt) ∧ (x1.toInt ≤ 255) ∧ ((i1 7429).toInt < 120)) → a2 119 = a1 119))) : kTB i2 a2 ∧ v = w := by
  obtain ⟨k1, k2⟩ := st_feed h.1 g1 P1 g2 P2
  refine ⟨⟨k1, ?_⟩, k2⟩
  rw [g2.fa 99 rfl]
  by_cases c : 0 ≤ x1.toInt ∧ x1.toInt ≤ 255 ∧ (i 6273).toInt < 120
  · rw [P1.2.1 ⟨c.1, c.2.1, c.2.2⟩]
    exact kBy_set h.2 c.1 c.2.1
  · rw [P1.2.2 (fun z => c ⟨z.1, z.2.1, z.2.2⟩)]
    exact h.2
end
section
/-! THE LAW BECOMES ANOTHER: the market stays alike -/
def cLw (t : List Int32) (nn v : Int32) (i : Nat → Int32) (a : Nat → List Int32) (r : Nat → Nat) (i1 : Nat → Int32) (a1 : Nat → List Int32) (r1 : Nat → Nat) : Prop := ∃ st wi : List Int32, st.length = 121 ∧ wi.length = 121 ∧ ((cOk nn (cTxt t nn st wi) ∧ v = 1 ∧ i1 (64 * r1 0) = 1 ∧ (a1 (r1 0 + 1), a1 (r1 0 + 2), i1 (64 * r1 0 + 3)) = (cTxt t nn st wi).2.2) ∨ (¬ cOk nn (cTxt t nn st wi) ∧ v = -100 - (cTxt t nn st wi).1 ∧ r1 0 = r 0 ∧ i1 (64 * r 0) = i (64 * r 0) ∧ i1 (64 * r 0 + 3) = i (64 * r 0 + 3) ∧ a1 (r 0 + 1) = a (r 0 + 1) ∧ a1 (r 0 + 2) = a (r 0 + 2)))
def rLw (t : List Int32) (nn v : Int32) (i : Nat → Int32) (a : Nat → List Int32) (i1 : Nat → Int32) (a1 : Nat → List Int32) : Prop := ∃ L A Y E : List Int32, (L.length = 200 ∧ A.length = 61 ∧ Y.length = 61 ∧ E.length = 61) ∧ ((rOk nn (rTxt t nn L A Y E) ∧ v = 1 ∧ i1 7431 = 1 ∧ i1 7432 = (rTxt t nn L A Y E).2.2.1 ∧ kCp (rTxt t nn L A Y E).2.2.2.1 (a1 120) (rTxt t nn L A Y E).2.2.1.toInt.toNat ∧ kCp (rTxt t nn L A Y E).2.2.2.2.1 (a1 121) (rTxt t nn L A Y E).2.2.1.toInt.toNat ∧ kCp (rTxt t nn L A Y E).2.2.2.2.2 (a1 122) (rTxt t nn L A Y E).2.2.1.toInt.toNat ∧ kCp (rTxt t nn L A Y E).2.1.2.2 (a1 123) (rTxt t nn L A Y E).2.1.2.1.toInt.toNat) ∨ (¬ rOk nn (rTxt t nn L A Y E) ∧ v = -100 - (rTxt t nn L A Y E).2.1.1 ∧ i1 7431 = i 7431 ∧ i1 7432 = i 7432 ∧ a1 120 = a 120 ∧ a1 121 = a 121 ∧ a1 122 = a 122 ∧ a1 123 = a 123))
section LW
variable {i i1 i2 : Nat → Int32} {a a1 a2 : Nat → List Int32} {q q1 q2 : Nat → List Int64} {r r1 r2 : Nat → Nat} {u1 u2 : Int32}
theorem kz86_0 (hI : kI i a q) (hr : kr r) (hB : kBy (a 99)) : km 57 86 [.ref 0] (ks i a q r) (kVI yw86_0 i a q r (fun v i1 a1 q1 r1 => (i1 6273).toInt = 0 ∧ cLw (a 99) (i 6273) v i a r i1 a1 r1)) := by
  have hcase : (r 2 = 10 ∧ r 0 = 100) ∨ (r 2 = 100 ∧ r 0 = 10) := by
    rcases hr.1 with h | h
    · exact Or.inr ⟨h.2, h.1⟩
    · exact Or.inl ⟨h.2, h.1⟩
  rcases hcase with ⟨hL, h0⟩ | ⟨hL, h0⟩
  · refine km_imp (ke86_0_L10 hI hr (a 99) (i 6273) rfl rfl hL hB) ?_
    rintro rv h1 ⟨v, i1, a1, q1, r1, e1, e2, g, hz, hc⟩
    refine ⟨v, i1, a1, q1, r1, e1, e2, kG_call (kG_self _ hI hr) g (by decide +kernel), hz, a 11, a 12, hI.2.1 11, hI.2.1 12, ?_⟩
    rcases hc with ⟨c1, c2, c3, c4, c5, c6⟩ | ⟨c1, c2, c3, c4⟩
    · exact Or.inl ⟨c1, c2, by rw [c3]; exact c5, by rw [c3]; exact c6⟩
    · exact Or.inr ⟨c1, c2, by rw [c3, h0], by rw [h0]; exact g.fi 6400 rfl, by rw [h0]; exact g.fi 6403 rfl, by rw [h0]; exact g.fa 101 rfl, by rw [h0]; exact g.fa 102 rfl⟩
  · refine km_imp (ke86_0_L100 hI hr (a 99) (i 6273) rfl rfl hL hB) ?_
    rintro rv h1 ⟨v, i1, a1, q1, r1, e1, e2, g, hz, hc⟩
    refine ⟨v, i1, a1, q1, r1, e1, e2, kG_call (kG_self _ hI hr) g (by decide +kernel), hz, a 101, a 102, hI.2.1 101, hI.2.1 102, ?_⟩
    rcases hc with ⟨c1, c2, c3, c4, c5, c6⟩ | ⟨c1, c2, c3, c4⟩
    · exact Or.inl ⟨c1, c2, by rw [c3]; exact c5, by rw [c3]; exact c6⟩
    · exact Or.inr ⟨c1, c2, by rw [c3, h0], by rw [h0]; exact g.fi 640 rfl, by rw [h0]; exact g.fi 643 rfl, by rw [h0]; exact g.fa 11 rfl, by rw [h0]; exact g.fa 12 rfl⟩
theorem kz159_116 (hI : kI i a q) (hr : kr r) (hE_code : kCode i a) (hB : kBy (a 119)) : km 55 159 [.ref 116] (ks i a q r) (kVI yw159_116 i a q r (fun v i1 a1 q1 r1 => ((i1 7429).toInt = 0 ∧ rLw (a 119) (i 7429) v i a i1 a1) ∧ kCode i1 a1)) := by
  refine km_imp (kf159_116 hI hr (a 119) (i 7429) rfl rfl hB) ?_
  rintro rv h1 ⟨v, i1, a1, q1, r1, e1, e2, g, h0, hc⟩
  have hb : (0 : Int) ≤ (i 7429).toInt ∧ (i 7429).toInt ≤ 120 := hI.1 7429
  refine ⟨v, i1, a1, q1, r1, e1, e2, kG_call (kG_self _ hI hr) g (by decide +kernel), ⟨h0, a 127, a 124, a 125, a 126, ⟨hI.2.1 127, hI.2.1 124, hI.2.1 125, hI.2.1 126⟩, hc⟩, ?_⟩
  rcases hc with ⟨c1, c2, c3, c4, c5, c6, c7, c8⟩ | ⟨c1, c2, c3, c4, c5, c6, c7, c8⟩
  · obtain ⟨_, s2, s3⟩ := sim_txt (t := a 119) (n := i 7429) (st := List.replicate 121 0) (wi := List.replicate 121 0) (L := a 127) (A := a 124) (Y := a 125) (E := a 126) hb.1 hb.2 List.length_replicate List.length_replicate (hI.2.1 127) (hI.2.1 124) (hI.2.1 125) (hI.2.1 126)
    obtain ⟨l, hl⟩ := s3 (s2.mpr c1)
    exact code_law hb.2 hl c4 c5 c6 c7 c8
  · exact kCode_of hE_code c4 c5 c6 c7 c8
set_option maxHeartbeats 4000000 in
theorem st_lawm (K : kI i a q ∧ kr r) (T : kTB i a) (h : kMar i a r) (g1 : kG yw86_0 i a q r i1 a1 q1 r1) (P1 : (i1 6273).toInt = 0 ∧ cLw (a 99) (i 6273) u1 i a r i1 a1 r1) (g2 : kG yw159_116 i1 a1 q1 r1 i2 a2 q2 r2) (P2 : (i2 7429).toInt = 0 ∧ rLw (a1 119) (i1 7429) u2 i1 a1 i2 a2) : (kTB i2 a2 ∧ kMar i2 a2 r2) ∧ u1 = u2 := by
  obtain ⟨hI, hr⟩ := K
  obtain ⟨h1, h2, h3, h4, h5, h6, h7, h8⟩ := h
  have hb : (0 : Int) ≤ (i 6273).toInt ∧ (i 6273).toInt ≤ 120 := hI.1 6273
  have tb : kTB i2 a2 := by
    refine ⟨st_tlaw T.1 g1 P1.1 g2 P2.1, ?_⟩
    rw [g2.fa 99 rfl, g1.fa 99 rfl]
    exact T.2
  have en : i1 7429 = i 6273 := by
    rw [g1.fi 7429 rfl]
    exact kj_v (by have := T.1.1; omega)
  obtain ⟨st, wi, l1, l2, hc⟩ := P1.2
  obtain ⟨L, A, Y, E, ⟨l3, l4, l5, l6⟩, hd⟩ := P2.2
  rw [g1.fa 119 rfl, ← T.1.2, en] at hd
  obtain ⟨s1, s2, s3⟩ := sim_txt (t := a 99) hb.1 hb.2 l1 l2 l3 l4 l5 l6
  have er : r2 0 = r1 0 := g2.fr 0 rfl
  have hr1 := g1.R
  have fA : ∀ p : Nat, p = r1 0 + 1 ∨ p = r1 0 + 2 → a2 p = a1 p := fun p hp => by
    rcases hr1.1 with ⟨hz, _⟩ | ⟨hz, _⟩ <;> rw [hz] at hp <;> rcases hp with e | e <;> subst e <;> exact g2.fa _ rfl
  have fI : ∀ p : Nat, p = 64 * r1 0 ∨ p = 64 * r1 0 + 3 → i2 p = i1 p := fun p hp => by
    rcases hr1.1 with ⟨hz, _⟩ | ⟨hz, _⟩ <;> rw [hz] at hp <;> rcases hp with e | e <;> subst e <;> exact g2.fi _ rfl
  have fin : kLaw i2 a2 r2 → kMar i2 a2 r2 := fun lw => ⟨kCn_fr g2 (by decide +kernel) (kCn_fr g1 (by decide +kernel) h1), kMk_fr g2 (by decide +kernel) (kMk_fr g1 (by decide +kernel) h2), kNr_fr g2 (by decide +kernel) (kNr_fr g1 (by decide +kernel) h3), kGr_fr g2 (by decide +kernel) (kGr_fr g1 (by decide +kernel) h4), kLd_fr g2 (by decide +kernel) (kLd_fr g1 (by decide +kernel) h5), kZe_fr g2 (by decide +kernel) (kZe_fr g1 (by decide +kernel) h6), lw, kIm_fr g2 (by decide +kernel) (kIm_fr g1 (by decide +kernel) h8)⟩
  rcases hc with ⟨c1, c2, c3, c4⟩ | ⟨c1, c2, c3, c4, c5, c6, c7⟩
  · rcases hd with ⟨d1, d2, d3, d4, d5, d6, d7, d8⟩ | ⟨d1, _⟩
    · refine ⟨⟨tb, fin ⟨?_, fun _ => ?_⟩⟩, by rw [c2, d2]⟩
      · rw [er, fI _ (Or.inl rfl), c3, d3]
      · obtain ⟨l, hl⟩ := s3 c1
        rw [er, fI _ (Or.inr rfl), fA _ (Or.inl rfl), fA _ (Or.inr rfl)]
        intro stk w pu hh c o d hs
        have k := law_same (nm := [w, pu, hh, c, o, d]) (stk := stk) hb.2 hl d5 d6 d7 d8 hs
        rw [show a1 (r1 0 + 1) = (cTxt (a 99) (i 6273) st wi).2.2.1 from congrArg (fun z : List Int32 × List Int32 × Int32 => z.1) c4, show a1 (r1 0 + 2) = (cTxt (a 99) (i 6273) st wi).2.2.2.1 from congrArg (fun z : List Int32 × List Int32 × Int32 => z.2.1) c4, show i1 (64 * r1 0 + 3) = (cTxt (a 99) (i 6273) st wi).2.2.2.2 from congrArg (fun z : List Int32 × List Int32 × Int32 => z.2.2) c4]
        unfold wl
        rw [d4]
        exact k
    · exact absurd (s2.mp c1) d1
  · rcases hd with ⟨d1, _⟩ | ⟨d1, d2, d3, d4, d5, d6, d7, d8⟩
    · exact absurd (s2.mpr d1) c1
    · refine ⟨⟨tb, fin ⟨?_, fun z => ?_⟩⟩, by rw [c2, d2, s1]⟩
      · rw [er, fI _ (Or.inl rfl), c3, c4, d3, g1.fi 7431 rfl]
        exact h7.1
      · rw [er, fI _ (Or.inr rfl), fA _ (Or.inl rfl), fA _ (Or.inr rfl), c3, c5, c6, c7]
        unfold wl
        rw [d4, d5, d6, d7, d8, g1.fi 7432 rfl, g1.fa 120 rfl, g1.fa 121 rfl, g1.fa 122 rfl, g1.fa 123 rfl]
        refine h7.2 ?_
        rw [← g1.fi 7431 rfl, ← d3]
        exact z
end LW
end
section
/-! THE MARKETS AT THE BEGINNING -/
theorem kst_z (p j : Nat) (h : p ≠ 136) : (kst_a p).getD j 0 = 0 := by
  have ep : kst_a p = List.replicate (kL p) 0 := by
    unfold kst_a
    cases eb : Nat.beq p 136 with
    | true => exact absurd (Nat.eq_of_beq_eq_true eb) h
    | false => rfl
  rw [ep, kst_g0]
theorem kst_mar : kMar kst_i kst_a kst_r := by
  have z := kst_z
  have zz : ∀ p j n m : Nat, p ≠ 136 → n ≠ 136 → (kst_a p).getD j 0 = (kst_a n).getD m 0 := fun p j n m h1 h2 => (z p j h1).trans (z n m h2).symm
  refine ⟨by decide +kernel, ⟨fun j _ => zz _ _ _ _ (by decide) (by decide), ?_, ?_, fun j _ => zz _ _ _ _ (by decide) (by decide), ?_, fun j hj => ?_⟩, ⟨fun j _ => zz _ _ _ _ (by decide) (by decide), fun j _ => ⟨zz _ _ _ _ (by decide) (by decide), zz _ _ _ _ (by decide) (by decide), zz _ _ _ _ (by decide) (by decide)⟩, ?_, ?_, ?_⟩, ⟨?_, ?_, ⟨?_, ?_, ?_⟩, fun j hj => ?_⟩, by decide +kernel, fun j _ _ => ⟨z _ _ (by decide), z _ _ (by decide)⟩, ⟨by decide +kernel, fun h => absurd (by decide +kernel : (kst_i 7431).toInt = 0) h⟩, ⟨by decide +kernel, fun h => absurd (by decide +kernel : (kst_i 2).toInt = 0) h⟩⟩
  · rw [z 118 8 (by decide)]; decide +kernel
  · rw [z 118 9 (by decide)]; decide +kernel
  · rw [z 118 18 (by decide)]; decide +kernel
  · have e : (kst_i 450).toInt = 0 := by decide +kernel
    omega
  · show kst_i 70 = kst_i 7426
    decide +kernel
  · show kst_i 71 = kst_i 7427
    decide +kernel
  · show kst_i 72 = (kst_a 118).getD 8 0
    rw [z 118 8 (by decide)]; decide +kernel
  · show kst_i 5700 = kst_i 7452
    decide +kernel
  · show kst_i 5701 = kst_i 7453
    decide +kernel
  · show 0 ≤ (kst_i 7453).toInt
    decide +kernel
  · show (kst_i 7453).toInt ≤ (kst_i 7452).toInt
    decide +kernel
  · show (kst_i 7452).toInt ≤ 40
    decide +kernel
  · have e : (kst_i 7452).toInt = 0 := by decide +kernel
    have hj : (j : Int) < (kst_i 7452).toInt := hj
    omega
theorem mar_3rd {i : Nat → Int32} {a : Nat → List Int32} {q : Nat → List Int64} {r : Nat → Nat} (hI : kI i a q) (h : kMar i a r) : ((1 : Int) ≤ (i 70).toInt) ∧ ((i 70).toInt ≤ 5) := by
  rw [show i 70 = i 7426 from h.2.2.1.2.2.1]
  exact kI_3rd hI
end
section
/-! A ROW IN THOUGHT, PURELY, AS THE REFERENCE HAS IT: THIRD, DOGS, told, the law, the ways; now, payer, paid, bought, lacking, flows -/
abbrev gK : Type := Int32 × Int32 × Int32 × (List Int32 → Int32) × List Int32
abbrev gS : Type := List Int32 × Int32 × Int32 × Int32 × Int32 × List Int32
def gBy (K : gK) (N N1 : List Int32) (c : Int32) : Int32 := kBuy K.2.2.1 K.2.2.2.1 (K.2.2.2.2.getD c.toNatClampNeg 0) (N.getD c.toNatClampNeg 0) (K.2.2.2.2.getD (8 + c).toNatClampNeg 0) (N1.getD (9 : Int32).toNatClampNeg 0) (N1.getD (10 + c).toNatClampNeg 0) (N1.getD (8 : Int32).toNatClampNeg 0)
def gCo (K : gK) (c : Int32) (N : List Int32) (P : kSt) : gS := (sCome c (gBy K N P.1 c) P.1, P.2.1, P.2.2.1, gBy K N P.1 c, P.2.2.2.1, P.2.2.2.2)
def gIn (K : gK) (c : Int32) (S : gS) : gS := if (K.2.2.2.2.getD (16 + c).toNatClampNeg 0).toInt = 1 ∧ K.2.1.toInt = 0 then (S.1, 8, 0, 0, S.2.2.2.2) else gCo K c S.1 (gPaid K.1 c S.1 S.2.2.2.2.1 S.2.2.2.2.2)
def gAt (K : gK) (L : List Int32) (S : gS) : Nat → gS
  | 0 => S
  | k + 1 => gIn K (L.getD k 0) (gAt K L S k)
def gEve (S : gS) : gS := (sEnds S.1, S.2)
/-- the k-th coming's payer, coins, what he buys: for all ahead of n -/
def gOp (K : gK) (L : List Int32) (S : gS) (n : Int) (A B C : List Int32) : Prop := ∀ j : Nat, (j : Int) < n → A.getD j 0 = (gAt K L S (j + 1)).2.1 ∧ B.getD j 0 = (gAt K L S (j + 1)).2.2.1 ∧ C.getD j 0 = (gAt K L S (j + 1)).2.2.2.1
section TP
variable {K : gK} {L L1 : List Int32} {S S1 : gS} {c : Int32}
theorem gAt_next {i1 : Nat → Int32} {T : gS} {x k k1 : Int32} (h : T = gIn K x (gAt K L S k.toInt.toNat)) (hx : x = L.getD k.toNatClampNeg 0) (h0 : 0 ≤ k.toInt) (h1 : k1.toInt = k.toInt + 1) (_ : i1 = i1) : T = gAt K L S k1.toInt.toNat := by
  rw [h, hx, show k1.toInt.toNat = k.toInt.toNat + 1 by omega]
  rfl
theorem gAt_k0 {k : Int32} (h : k.toInt = 0) : gAt K L S k.toInt.toNat = S := by
  rw [h]
  rfl
theorem gOp_0 {A B C : List Int32} {n : Int} (h : n = 0) : gOp K L S n A B C := fun j hj => by omega
theorem gOp_step {A B C A1 B1 C1 : List Int32} {k k1 p d b : Int32} {T : gS} {n : Nat} (h : gOp K L S k.toInt A B C) (lA : A.length = n) (lB : B.length = n) (lC : C.length = n) (h0 : 0 ≤ k.toInt) (hn : k.toInt < (n : Int)) (h1 : k1.toInt = k.toInt + 1) (hT : T = gAt K L S k1.toInt.toNat) (eA : A1 = A.set k.toNatClampNeg p) (eB : B1 = B.set k.toNatClampNeg d) (eC : C1 = C.set k.toNatClampNeg b) (ep : p = T.2.1) (ed : d = T.2.2.1) (eb : b = T.2.2.2.1) : gOp K L S k1.toInt A1 B1 C1 := by
  have tk := Int32.toNat_toInt k
  subst eA
  subst eB
  subst eC
  intro j hj
  rw [kset_gI (by omega), kset_gI (by omega), kset_gI (by omega)]
  by_cases e : j = k.toNatClampNeg
  · rw [if_pos e, if_pos e, if_pos e, ep, ed, eb, hT, show k1.toInt.toNat = j + 1 by omega]
    exact ⟨rfl, rfl, rfl⟩
  · rw [if_neg e, if_neg e, if_neg e]
    exact h j (by omega)
end TP
/-! CLASS AND REFERENCE: what both know now; the class's market in thought beside what the reference has -/
def kNoW (i : Nat → Int32) (a : Nat → List Int32) (r : Nat → Nat) : Prop := i 64 = i 7424 ∧ kMk i a ∧ kNr i a ∧ kLaw i a r
def gKn (i : Nat → Int32) (a : Nat → List Int32) : gK := (i 7426, i 7427, i 7431, wl i a, a 117)
def gN (S : gS) : kSt := (S.1, S.2.1, S.2.2.1, S.2.2.2.2.1, S.2.2.2.2.2)
def kThC (i : Nat → Int32) (a : Nat → List Int32) (r : Nat → Nat) : Prop := i 3200 = i 64 ∧ i 3206 = i 70 ∧ i 3207 = i 71 ∧ a 52 = a 3 ∧ a 53 = a 4 ∧ a 54 = a 5 ∧ r 1 = r 0
/-! nobody pays himself -/
def kDg (T : kCt) : Prop := ∀ u : Nat, u < 8 → (T.2.2.2.2.2.2.2 u).getD u 0 = 0
def mFd (T : kCt) (S : kSt) : Prop := mF T S ∧ kDg T
theorem getD_set_ne {l : List Int32} {j m : Nat} {x : Int32} (h : m ≠ j) : (l.set j x).getD m 0 = l.getD m 0 := by
  rw [List.getD_eq_getElem?_getD, List.getD_eq_getElem?_getD, List.getElem?_set_ne (fun e => h e.symm)]
theorem cPay_dg {b c : Int32} {T : kCt} (h0 : 0 ≤ c.toInt) (h : kDg T) : kDg (cPay b c T) := by
  unfold cPay
  by_cases q : (T.2.1.getD 0 0).toInt ≠ c.toInt ∧ 0 ≤ (T.2.1.getD 0 0).toInt ∧ (T.2.1.getD 0 0).toInt < b.toInt
  · rw [if_pos q]
    intro u hu
    have tc := Int32.toNat_toInt c
    have tw := Int32.toNat_toInt (T.2.1.getD 0 0)
    show (bif Nat.beq u (T.2.1.getD 0 0).toNatClampNeg then (T.2.2.2.2.2.2.2 u).set c.toNatClampNeg ((T.2.2.2.2.2.2.2 u).getD c.toNatClampNeg 0 + cCoin T) else T.2.2.2.2.2.2.2 u).getD u 0 = 0
    cases e : Nat.beq u (T.2.1.getD 0 0).toNatClampNeg with
    | false => exact h u hu
    | true =>
      have e := Nat.eq_of_beq_eq_true e
      show ((T.2.2.2.2.2.2.2 u).set c.toNatClampNeg ((T.2.2.2.2.2.2.2 u).getD c.toNatClampNeg 0 + cCoin T)).getD u 0 = 0
      rw [getD_set_ne (by omega)]
      exact h u hu
  · rw [if_neg q]
    exact h
theorem cPaid_dg {b t3 c : Int32} (h0 : 0 ≤ c.toInt) : ∀ (n : Nat) {T : kCt}, kDg T → kDg (cPaid b t3 c n T)
  | 0, _, h => h
  | n + 1, T, h => by
    unfold cPaid
    by_cases q : t3.toInt ≤ T.1.toInt
    · rw [if_pos q]
      exact cPaid_dg h0 n (cPay_dg h0 h)
    · rw [if_neg q]
      exact h
def kThm (i : Nat → Int32) (a : Nat → List Int32) (r : Nat → Nat) (S : gS) : Prop := kThC i a r ∧ i 3216 = S.2.2.2.1 ∧ (∃ L0 : List Int32, mP (i 64) 0 L0 (a 55) (i 3208) (i 3209) (cT 50 i a) (gN S)) ∧ mFd (cT 50 i a) (gN S)
theorem kUn_sub {w : kW} {F A R F1 A1 R1 : List Nat} (h : kUn w F A R = true) (hF : ∀ k ∈ F1, k ∈ F) (hA : ∀ k ∈ A1, k ∈ A) (hR : ∀ k ∈ R1, k ∈ R) : kUn w F1 A1 R1 = true := by
  obtain ⟨f1, f2, f3⟩ := kUn_all h
  unfold kUn
  simp only [Bool.and_eq_true, List.all_eq_true, Bool.not_eq_true']
  exact ⟨fun k hk => f1 k (hF k hk), fun k hk => f2 k (hA k hk), fun k hk => f3 k (hR k hk)⟩
def nwF : List Nat := [64, 72, 73, 450, 7424, 70, 71, 7426, 7427, 7431, 7432, 640, 643, 6400, 6403]
def nwA : List Nat := [2, 3, 4, 5, 6, 8, 9, 117, 118, 120, 121, 122, 123, 11, 12, 101, 102]
section TH
variable {w : kW} {i i1 : Nat → Int32} {a a1 : Nat → List Int32} {q q1 : Nat → List Int64} {r r1 : Nat → Nat} {S : gS} {x1 v : Int32}
theorem kNoW_fr (g : kG w i a q r i1 a1 q1 r1) (f : kUn w nwF nwA [0] = true) (hr : kr r) (h : kNoW i a r) : kNoW i1 a1 r1 :=
  ⟨kCn_fr g (kUn_sub f (by decide) (by decide) (by decide)) h.1, kMk_fr g (kUn_sub f (by decide) (by decide) (by decide)) h.2.1, kNr_fr g (kUn_sub f (by decide) (by decide) (by decide)) h.2.2.1, kLaw_fr g (kUn_sub f (by decide) (by decide) (by decide)) hr h.2.2.2⟩
theorem kNoW_mar (h : kMar i a r) : kNoW i a r := ⟨h.1, h.2.1, h.2.2.1, h.2.2.2.2.2.2.1⟩
theorem gKn_fr (g : kG w i a q r i1 a1 q1 r1) (f : kUn w [7426, 7427, 7431, 7432] [117, 120, 121, 122, 123] [] = true) : gKn i1 a1 = gKn i a := by
  obtain ⟨f1, f2, _⟩ := kUn_all f
  unfold gKn wl
  rw [g.fi 7426 (f1 _ (by decide)), g.fi 7427 (f1 _ (by decide)), g.fi 7431 (f1 _ (by decide)), g.fi 7432 (f1 _ (by decide)), g.fa 117 (f2 _ (by decide)), g.fa 120 (f2 _ (by decide)), g.fa 121 (f2 _ (by decide)), g.fa 122 (f2 _ (by decide)), g.fa 123 (f2 _ (by decide))]
theorem kThm_c {T : gS} (h : kThm i a r S) (e : T = S) : kThm i a r T := by subst e; exact h
/-- what is asked of a market behind comings -/
theorem kThm_la (h : kThm i a r S) : (a 63).getD 2 0 = S.2.2.2.2.1 := by
  obtain ⟨_, _, ⟨L0, hP⟩, _⟩ := h
  have e : (a 63).getD 2 0 = 0 + S.2.2.2.2.1 := hP.2.2.2.1
  rw [e, Int32.zero_add]
theorem kThm_pu (h : kThm i a r S) {j : Nat} (hj : j < 8) : (a 51).getD j 0 = S.1.getD j 0 := by
  obtain ⟨_, _, ⟨L0, hP⟩, _⟩ := h
  exact hP.1.1 j hj
theorem kl_51 (hI : kI i a q) : (a 51).length = 8 := hI.2.1 51
theorem kl_55 (hI : kI i a q) : (a 55).length = 8 := hI.2.1 55
theorem kl_57 (hI : kI i a q) : (a 57).length = 5 := hI.2.1 57
theorem kl_58 (hI : kI i a q) : (a 58).length = 5 := hI.2.1 58
theorem kl_63 (hI : kI i a q) : (a 63).length = 5 := hI.2.1 63
theorem kl_65 (hI : kI i a q) : ∀ u : Nat, u < 8 → (a (50 + 15 + u)).length = 8
  | 0, _ => hI.2.1 65
  | 1, _ => hI.2.1 66
  | 2, _ => hI.2.1 67
  | 3, _ => hI.2.1 68
  | 4, _ => hI.2.1 69
  | 5, _ => hI.2.1 70
  | 6, _ => hI.2.1 71
  | 7, _ => hI.2.1 72
  | u + 8, h => absurd h (by omega)
theorem th_len (hI : kI i a q) : mLen (cT 50 i a) := by
  refine ⟨kl_57 hI, kl_58 hI, kl_51 hI, kl_63 hI, fun u hu => ?_⟩
  show (cRow 50 a u).length = 8
  rw [cRow_lt hu]
  exact kl_65 hI u hu
theorem th_buy {pu c o d : Int32} {N N1 : List Int32} (hI : kI i a q) (hr : kr r) (hN : kNr i a) (hL : kLaw i a r) (h0 : 0 ≤ x1.toInt) (h8 : x1.toInt < 8) (ep : pu = N.getD x1.toNatClampNeg 0) (e9 : N1.getD 9 0 = c) (e10 : N1.getD (10 + x1.toNatClampNeg) 0 = o) (e8 : N1.getD 8 0 = d) :
    cBuyV (i (64 * r 0)) (a (r 0 + 1)) (a (r 0 + 2)) (a (r 0 + 3)) (i (64 * r 0 + 3)) ((a 3).getD x1.toNatClampNeg 0) pu ((a 4).getD x1.toNatClampNeg 0) c o d = gBy (gKn i a) N N1 x1 := by
  have t0 := Int32.toNat_toInt x1
  obtain ⟨q1, q2, q3⟩ := ix_16 h0 h8
  obtain ⟨w1, w2, _⟩ := hN.2.1 x1.toNatClampNeg (by omega)
  have w1 : (a 3).getD x1.toNatClampNeg 0 = (a 117).getD x1.toNatClampNeg 0 := w1
  have w2 : (a 4).getD x1.toNatClampNeg 0 = (a 117).getD (8 + x1.toNatClampNeg) 0 := w2
  have hs : (a (r 0 + 3)).length = 121 := by
    rcases hr.1 with ⟨hz, _⟩ | ⟨hz, _⟩
    · rw [hz]; exact hI.2.1 13
    · rw [hz]; exact hI.2.1 103
  rw [kBuy_c (LV := wl i a) (fun z => hL.2 (by rw [← hL.1]; exact z)) hs]
  unfold gBy gKn
  dsimp only
  rw [hL.1, (by decide : (9 : Int32).toNatClampNeg = 9), (by decide : (8 : Int32).toNatClampNeg = 8), q2, q3, e8, e9, e10, w1, w2, ep]
end TH
/-! what a purse of flows says in thought -/
theorem kj_ix8 {x : Int32} (h0 : 0 ≤ x.toInt) (h1 : x.toInt < 8) : x.toNatClampNeg < 8 := by
  have := Int32.toNat_toInt x
  omega
/-! rows of flow made nothing -/
def kFz (a : Nat → List Int32) (m : Int) : Prop := ∀ u c : Nat, u < 8 → c < 8 → (8 * (u : Int) + (c : Int)) < m → (a (50 + 15 + u)).getD c 0 = 0
def kZ8 (a : Nat → List Int32) : Prop := ∀ u : Nat, u < 8 → a (50 + 15 + u) = List.replicate 8 0
theorem kFz_0 {a : Nat → List Int32} {m : Int} (h : m ≤ 0) : kFz a m := fun u c _ _ hm => by omega
theorem kFz_le {a : Nat → List Int32} {m m1 : Int} (h : kFz a m) (hm : m1 ≤ m) : kFz a m1 := fun u c hu hc h1 => h u c hu hc (by omega)
theorem kFz_step {a a1 : Nat → List Int32} {x y y1 : Int32} {m n : Nat} (h : kFz a (8 * x.toInt + y.toInt)) (hl : (a (50 + 15 + m)).length = n) (hn : n = 8) (hx : x.toInt = (m : Int)) (h0 : 0 ≤ y.toInt) (h8 : y.toInt < 8) (h1 : y1.toInt = y.toInt + 1) (e : a1 (50 + 15 + m) = (a (50 + 15 + m)).set y.toNatClampNeg 0) (f : ∀ k, k ≠ 50 + 15 + m → a1 k = a k) : kFz a1 (8 * x.toInt + y1.toInt) := by
  have ty := Int32.toNat_toInt y
  intro u c hu hc hm
  by_cases cu : u = m
  · subst cu
    rw [e, kset_gI (by omega)]
    by_cases cc : c = y.toNatClampNeg
    · rw [if_pos cc]
    · rw [if_neg cc]
      exact h u c hu hc (by omega)
  · rw [f (50 + 15 + u) (by omega)]
    exact h u c hu hc (by omega)
theorem kFz_all {a : Nat → List Int32} {m : Int} (h : kFz a m) (hm : 64 ≤ m) (hl : ∀ u : Nat, u < 8 → (a (50 + 15 + u)).length = 8) : kZ8 a := by
  intro u hu
  refine List.ext_getElem (by rw [hl u hu, List.length_replicate]) (fun j h1 h2 => ?_)
  rw [hl u hu] at h1
  have := h u j hu h1 (by omega)
  rw [List.getD_eq_getElem?_getD, List.getElem?_eq_getElem (by rw [hl u hu]; exact h1)] at this
  rw [List.getElem_replicate]
  exact this
theorem cpy_alw {l g : List Int32} {n : Nat} (hl : l.length = n) (hg : g.length = n) : mi_cpy l g 0 0 n = l := by
  refine List.ext_getElem (by rw [mi_cpy_len (by omega) (by omega)]; omega) (fun j h1 h2 => ?_)
  have := cpy_g (l := l) (g := g) (sp := 0) (dp := 0) (n := n) (j := j) (by omega) (by omega)
  rw [if_pos (by omega), List.getD_eq_getElem?_getD, List.getD_eq_getElem?_getD, List.getElem?_eq_getElem h1, List.getElem?_eq_getElem (by omega)] at this
  have e : 0 + (j - 0) = j := by omega
  simp only [e] at this
  exact this
end
