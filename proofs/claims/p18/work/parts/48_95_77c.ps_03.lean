set_option maxRecDepth 100000 in
theorem kMsQ_156 (n : Nat) (h152 : kMQ_152 n) (h153 : kMQ_153 n) (h154 : kMQ_154 n) (h155 : kMQ_155 n) : kMQ_156 n := by
  intro i a q r hI hr hp0 hp1 hp2 t nn hT hN hX
  have hG := kG_self wQ hI hr
  refine km_ofI (q := (mi_h156, mi_c156)) rfl (by decide) (Nat.le_of_ble_eq_true rfl) ?_
  intro P hP
  have fi_7439 : ((0 : Int) ≤ (i 7439).toInt) ∧ ((i 7439).toInt ≤ 200) := hG.I.1 7439
  have fi_7437 : ((0 : Int) ≤ (i 7437).toInt) ∧ ((i 7437).toInt ≤ 120) := hG.I.1 7437
  have fi_7429 : ((0 : Int) ≤ (i 7429).toInt) ∧ ((i 7429).toInt ≤ 120) := hG.I.1 7429
  have hn0 : (0 : Int) ≤ (n : Int) := Int.natCast_nonneg n
  have hn1 : (i 7429).toInt = nn.toInt := congrArg Int32.toInt hN
  refine ft_go mi_k156 1 1 [(0, .ref 116)] [.ref 116] i a q r (by rfl) ?_
  refine ko_callI mi_k156.1 (pc := 1) (ls := [(0, .ref 116)]) (st := [.ref 116]) (h := ks i a q r) (i := (.invokevirtual 202, 3, 155, 0, 9, 0, 399)) (mi_k156.2 _ _ (by rfl)) (ft_invS mi_pq155 (by rfl)) (cy := mi_c155) mi_pq155 rfl (h155 _ _ _ _ hG.I hG.R (oq246 hp0) (oq222 hp1) (oq222 hp2) t nn hT hN hX) (kj_d1 (n := n) (o := 13) (o1 := 14) (by decide)) ?_
  intro vg2 ig2 ag2 qg2 rg2 kg2 hg2
  have hGg2 := kG_call hG kg2 (by decide +kernel)
  obtain ⟨hg2, og2⟩ := hg2
  have fig2_7437 : ((0 : Int) ≤ (ig2 7437).toInt) ∧ ((ig2 7437).toInt ≤ 120) := hGg2.I.1 7437
  have fig2_7429 : ((0 : Int) ≤ (ig2 7429).toInt) ∧ ((ig2 7429).toInt ≤ 120) := hGg2.I.1 7429
  have efig2_7429 : (ig2 7429).toInt = (i 7429).toInt := kg2.ti 7429 rfl
  have fig2_7439 : ((0 : Int) ≤ (ig2 7439).toInt) ∧ ((ig2 7439).toInt ≤ 200) := hGg2.I.1 7439
  have z3 : ((ig2 7438).toInt = (i 7438).toInt) ∧ ((i 7437).toInt ≤ (ig2 7437).toInt) ∧ ((ig2 7437).toInt ≤ (ig2 7429).toInt) ∧ (((ig2 7439).toInt - (ig2 7437).toInt) ≤ ((i 7439).toInt - (i 7437).toInt)) ∧ ((i 7439).toInt ≤ (ig2 7439).toInt) ∧ ((0 : Int) ≤ vg2.toInt) ∧ (vg2.toInt ≤ 1) ∧ (((vg2.toInt = 1) → (((i 7437).toInt + 1) ≤ (ig2 7437).toInt))) := hg2
  refine ft_if mi_k156 (vg2 != 0) 9 7 [(0, .ref 116)] [] (by rfl) (fun c => ?_) (fun c => ?_)
  ·
    have c4 : vg2.toInt ≠ (0 : Int32).toInt := kd_ne c; clear c
    have lp5 : ∀ (nz : Nat) (i5 : Nat → Int32) (a5 : Nat → List Int32) (q5 : Nat → List Int64) (r5 : Nat → Nat), kG yw156_116_L9 ig2 ag2 qg2 rg2 i5 a5 q5 r5 → (i5 7438).toInt = (i 7438).toInt → (i 7437).toInt ≤ (i5 7437).toInt → (i5 7437).toInt ≤ (i5 7429).toInt → ((i5 7439).toInt - (i5 7437).toInt) ≤ ((i 7439).toInt - (i 7437).toInt) → (i 7439).toInt ≤ (i5 7439).toInt → ((i 7437).toInt + 1) ≤ (i5 7437).toInt → rGb t nn (rP5 t nn (rO t nn n)) 38 7 (i5 7437, i5 7439, a5 127) (rBin t nn (rP5 t nn (rO t nn n)) 38 7 (i 7437, i 7439, a 127)) → (((i5 7429).toInt - (i5 7437).toInt)).toNat < nz → ko (6 * n + 14) (mi_h156, mi_c156) P (9, [(0, .ref 116)], [], (0, 0), ks i5 a5 q5 r5) := by
      intro nz
      induction nz with
      | zero =>
        intro _ _ _ _ _ _ _ _ _ _ _ _ hm
        exact absurd hm (Nat.not_lt_zero _)
      | succ nz ih5 =>
        intro i5 a5 q5 r5 hL5 p5_0 p5_1 p5_2 p5_3 p5_4 p5_5 O5_0 hm5
        have fi5_7437 : ((0 : Int) ≤ (i5 7437).toInt) ∧ ((i5 7437).toInt ≤ 120) := hL5.I.1 7437
        have fi5_7429 : ((0 : Int) ≤ (i5 7429).toInt) ∧ ((i5 7429).toInt ≤ 120) := hL5.I.1 7429
        have efi5_7429 : (i5 7429).toInt = (ig2 7429).toInt := hL5.ti 7429 rfl
        have fi5_7439 : ((0 : Int) ≤ (i5 7439).toInt) ∧ ((i5 7439).toInt ≤ 200) := hL5.I.1 7439
        refine ft_go mi_k156 2 12 [(0, .ref 116)] [.int 38, .ref 116] i5 a5 q5 r5 (by rfl) ?_
        refine ko_callI mi_k156.1 (pc := 12) (ls := [(0, .ref 116)]) (st := [.int 38, .ref 116]) (h := ks i5 a5 q5 r5) (i := (.invokevirtual 187, 3, 148, 0, 9, 0, 407)) (mi_k156.2 _ _ (by rfl)) (ft_invS mi_pq148 (by rfl)) (cy := mi_c148) mi_pq148 rfl (ke148_116 hL5.I hL5.R 38 (oq334 koq38) t nn (((hL5.fa 119 rfl).trans (kg2.fa 119 rfl)).trans hT) (((hL5.fi 7429 rfl).trans (kg2.fi 7429 rfl)).trans hN) hX) (kj_d3 (n := n) (c := 3) (o1 := 14) (by decide)) ?_
        intro vg6 ig6 ag6 qg6 rg6 kg6 hg6
        have hGg6 := kG_call hL5 kg6 (by decide +kernel)
        obtain ⟨hg6, og6⟩ := hg6
        have fig6_7437 : ((0 : Int) ≤ (ig6 7437).toInt) ∧ ((ig6 7437).toInt ≤ 120) := hGg6.I.1 7437
        have z7 : (((vg6.toInt = 1) ∧ ((ig6 7437).toInt = ((i5 7437).toInt + 1)) ∧ ((i5 7437).toInt < (i5 7429).toInt) ∧ ((cHr t nn (i5 7437) 0).toInt = (38 : Int32).toInt)) ∨ ((vg6.toInt = 0) ∧ ((ig6 7437).toInt = (i5 7437).toInt))) ∧ (((vg6.toInt = 0) → ((cHr t nn (i5 7437) 0).toInt ≠ (38 : Int32).toInt))) := hg6
        have q8 : ((ig6 7437).toInt = (i5 7437).toInt → (cHr t nn (ig6 7437) 0).toInt = (cHr t nn (i5 7437) 0).toInt) := fun h => congrArg Int32.toInt (kHr_c (t := t) (n := nn) (kj_v h) rfl)
        refine ft_if mi_k156 (vg6 == 0) 37 18 [(0, .ref 116)] [] (by rfl) (fun c => ?_) (fun c => ?_)
        ·
          have c9 : vg6.toInt = (0 : Int32).toInt := kd_eq c; clear c
          have hG10 := kG_call hGg2 hGg6 (by decide +kernel)
          refine ft_go mi_k156 1 38 [(0, .ref 116)] [.int 1] ig6 ag6 qg6 rg6 (by rfl) ?_
          have efig6_7438 : (ig6 7438).toInt = (i5 7438).toInt := kg6.ti 7438 rfl
          have fig6_7429 : ((0 : Int) ≤ (ig6 7429).toInt) ∧ ((ig6 7429).toInt ≤ 120) := hG10.I.1 7429
          have efig6_7429 : (ig6 7429).toInt = (i5 7429).toInt := kg6.ti 7429 rfl
          have fig6_7439 : ((0 : Int) ≤ (ig6 7439).toInt) ∧ ((ig6 7439).toInt ≤ 200) := hG10.I.1 7439
          have efig6_7439 : (ig6 7439).toInt = (i5 7439).toInt := kg6.ti 7439 rfl
          exact ft_ret mi_k156 (by rfl) (hP 1 _ _ _ _ hG10 ⟨(oq351 c9 efig6_7429 efig6_7438 efig6_7439 p5_0 p5_2 p5_3 p5_4 p5_5 z7.1 koq0 koq38 koq1), (rGb_out O5_0 (tTkR og6 (kT2 (kg6.fi 7439 rfl) (kg6.fa 127 rfl))) (oq145 c9 koq0) (rTk_no (tTkR og6 (kT2 (kg6.fi 7439 rfl) (kg6.fa 127 rfl))) (oq145 c9 koq0)) rfl)⟩)
        ·
          have c11 : vg6.toInt ≠ (0 : Int32).toInt := kd_eqF c; clear c
          refine ft_go mi_k156 1 19 [(0, .ref 116)] [.ref 116] ig6 ag6 qg6 rg6 (by rfl) ?_
          have efig6_7438 : (ig6 7438).toInt = (i5 7438).toInt := kg6.ti 7438 rfl
          have fig6_7439 : ((0 : Int) ≤ (ig6 7439).toInt) ∧ ((ig6 7439).toInt ≤ 200) := hGg6.I.1 7439
          have efig6_7439 : (ig6 7439).toInt = (i5 7439).toInt := kg6.ti 7439 rfl
          have fig6_7429 : ((0 : Int) ≤ (ig6 7429).toInt) ∧ ((ig6 7429).toInt ≤ 120) := hGg6.I.1 7429
          have efig6_7429 : (ig6 7429).toInt = (i5 7429).toInt := kg6.ti 7429 rfl
          refine ko_callI mi_k156.1 (pc := 19) (ls := [(0, .ref 116)]) (st := [.ref 116]) (h := ks ig6 ag6 qg6 rg6) (i := (.invokevirtual 202, 3, 155, 0, 9, 0, 399)) (mi_k156.2 _ _ (by rfl)) (ft_invS mi_pq155 (by rfl)) (cy := mi_c155) mi_pq155 rfl (h155 _ _ _ _ hGg6.I hGg6.R (oq254 efig6_7438 hp0 p5_0) (oq337 efig6_7439 hp1 p5_3 z7.1 koq38) (oq338 efig6_7429 p5_2 z7.1 koq38) t nn ((((kg6.fa 119 rfl).trans (hL5.fa 119 rfl)).trans (kg2.fa 119 rfl)).trans hT) (((kg6.fi 7429 rfl).trans ((hL5.fi 7429 rfl).trans (kg2.fi 7429 rfl))).trans hN) hX) (kj_d1 (n := n) (o := 13) (o1 := 14) (by decide)) ?_
          intro vg12 ig12 ag12 qg12 rg12 kg12 hg12
          have hGg12 := kG_call hGg6 kg12 (by decide +kernel)
          obtain ⟨hg12, og12⟩ := hg12
          have fig12_7437 : ((0 : Int) ≤ (ig12 7437).toInt) ∧ ((ig12 7437).toInt ≤ 120) := hGg12.I.1 7437
          have fig12_7429 : ((0 : Int) ≤ (ig12 7429).toInt) ∧ ((ig12 7429).toInt ≤ 120) := hGg12.I.1 7429
          have efig12_7429 : (ig12 7429).toInt = (ig6 7429).toInt := kg12.ti 7429 rfl
          have fig12_7439 : ((0 : Int) ≤ (ig12 7439).toInt) ∧ ((ig12 7439).toInt ≤ 200) := hGg12.I.1 7439
          have z13 : ((ig12 7438).toInt = (ig6 7438).toInt) ∧ ((ig6 7437).toInt ≤ (ig12 7437).toInt) ∧ ((ig12 7437).toInt ≤ (ig12 7429).toInt) ∧ (((ig12 7439).toInt - (ig12 7437).toInt) ≤ ((ig6 7439).toInt - (ig6 7437).toInt)) ∧ ((ig6 7439).toInt ≤ (ig12 7439).toInt) ∧ ((0 : Int) ≤ vg12.toInt) ∧ (vg12.toInt ≤ 1) ∧ (((vg12.toInt = 1) → (((ig6 7437).toInt + 1) ≤ (ig12 7437).toInt))) := hg12
          refine ft_if mi_k156 (vg12 != 0) 27 25 [(0, .ref 116)] [] (by rfl) (fun c => ?_) (fun c => ?_)
          ·
            have c14 : vg12.toInt ≠ (0 : Int32).toInt := kd_ne c; clear c
            refine ft_go mi_k156 2 30 [(0, .ref 116)] [.int 7, .ref 116] ig12 ag12 qg12 rg12 (by rfl) ?_
            refine ko_callI mi_k156.1 (pc := 30) (ls := [(0, .ref 116)]) (st := [.int 7, .ref 116]) (h := ks ig12 ag12 qg12 rg12) (i := (.invokevirtual 177, 3, 149, 0, 9, 0, 405)) (mi_k156.2 _ _ (by rfl)) (ft_invS mi_pq149 (by rfl)) (cy := mi_c149) mi_pq149 rfl (kf149_116 hGg12.I hGg12.R 7 (oq339 efig6_7439 fig12_7437.2 fig12_7439.1 hp1 p5_3 z13.2.2.2.1 z7.1 koq38)) (kj_d3 (n := n) (c := 1) (o1 := 14) (by decide)) ?_
            intro vg15 ig15 ag15 qg15 rg15 kg15 hg15
            have hGg15 := kG_call hGg12 kg15 (by decide +kernel)
            obtain ⟨hg15, og15⟩ := hg15
            have fig15_7439 : ((0 : Int) ≤ (ig15 7439).toInt) ∧ ((ig15 7439).toInt ≤ 200) := hGg15.I.1 7439
            have z16 : (vg15.toInt = 1) ∧ ((ig15 7439).toInt = ((ig12 7439).toInt + 1)) := hg15
            have q17 : ag15 127 = (ag12 127).set (ig12 7439).toNatClampNeg (7 : Int32) := og15.1
            have q18 : ig15 7439 = ig12 7439 + 1 := og15.2
            refine ft_go mi_k156 2 9 [(0, .ref 116)] [] ig15 ag15 qg15 rg15 (by rfl) ?_
            have efig15_7438 : (ig15 7438).toInt = (ig12 7438).toInt := kg15.ti 7438 rfl
            have fig15_7437 : ((0 : Int) ≤ (ig15 7437).toInt) ∧ ((ig15 7437).toInt ≤ 120) := hGg15.I.1 7437
            have efig15_7437 : (ig15 7437).toInt = (ig12 7437).toInt := kg15.ti 7437 rfl
            have fig15_7429 : ((0 : Int) ≤ (ig15 7429).toInt) ∧ ((ig15 7429).toInt ≤ 120) := hGg15.I.1 7429
            have efig15_7429 : (ig15 7429).toInt = (ig12 7429).toInt := kg15.ti 7429 rfl
            exact ih5 _ _ _ _ hGg15 (oq352 efig15_7438 efig6_7438 p5_0 z13.1) (oq341 efig15_7437 p5_5 z13.2.1 z7.1 koq38) (oq260 efig15_7429 efig15_7437 z13.2.2.1) (oq353 c11 efig15_7437 efig6_7439 p5_3 z13.2.2.2.1 z16.2 z7.1 koq0 koq38) (oq276 efig6_7439 p5_4 z13.2.2.2.2.1 z16.2) (oq344 efig15_7437 p5_5 z13.2.1 z7.1 koq38) (rGb_again O5_0 (tTkR og6 (kT2 (kg6.fi 7439 rfl) (kg6.fa 127 rfl))) (oq345 c11 z7.1 koq0 koq38) (oq346 c11 efi5_7429 efig12_7429 efig2_7429 efig6_7429 hn1 z13.2.1 z13.2.2.1 z7.1 koq0 koq38) og12 (oq151 c14 z13.2.2.2.2.2.1 koq0) (tCod og15.1 og15.2 (kg15.fi 7437 rfl)) (oq347 c11 efig15_7437 z13.2.1 z7.1 koq0 koq38)) (kj_meas (oq348 c11 efig12_7429 efig15_7429 efig15_7437 efig6_7429 z13.2.1 z7.1 koq0 koq38) (oq349 c11 efig12_7429 efig6_7429 z13.2.1 z13.2.2.1 z7.1 koq0 koq38) hm5)
          ·
            have c19 : vg12.toInt = (0 : Int32).toInt := kd_neF c; clear c
            have hG20 := kG_call hGg2 hGg12 (by decide +kernel)
            refine ft_go mi_k156 1 26 [(0, .ref 116)] [.int 0] ig12 ag12 qg12 rg12 (by rfl) ?_
            exact ft_ret mi_k156 (by rfl) (hP 0 _ _ _ _ hG20 ⟨(oq354 efig6_7438 efig6_7439 p5_0 p5_3 p5_4 p5_5 z13.1 z13.2.1 z13.2.2.1 z13.2.2.2.1 z13.2.2.2.2.1 z7.1 koq38 koq0), (rGb_no O5_0 (tTkR og6 (kT2 (kg6.fi 7439 rfl) (kg6.fa 127 rfl))) (oq345 c11 z7.1 koq0 koq38) (oq346 c11 efi5_7429 efig12_7429 efig2_7429 efig6_7429 hn1 z13.2.1 z13.2.2.1 z7.1 koq0 koq38) og12 (oq143 c19 z13.2.2.2.2.2.1 koq0) rfl)⟩)
    exact lp5 _ _ _ _ _ (kG_self _ hGg2.I hGg2.R) (oq208 z3.1) (oq222 z3.2.1) (oq222 z3.2.2.1) (oq287 z3.2.2.2.1) (oq222 z3.2.2.2.2.1) (oq288 c4 z3.2.2.2.2.2.1 z3.2.2.2.2.2.2.1 z3.2.2.2.2.2.2.2 koq0) (rGb_begin og2 (oq151 c4 z3.2.2.2.2.2.1 koq0) (oq2 fig2_7437.1)) (Nat.lt_succ_self _)
  ·
    have c21 : vg2.toInt = (0 : Int32).toInt := kd_neF c; clear c
    refine ft_go mi_k156 1 8 [(0, .ref 116)] [.int 0] ig2 ag2 qg2 rg2 (by rfl) ?_
    exact ft_ret mi_k156 (by rfl) (hP 0 _ _ _ _ hGg2 ⟨(oq289 z3.1 z3.2.1 z3.2.2.1 z3.2.2.2.1 z3.2.2.2.2.1 koq0), (rBi_no og2 (oq143 c21 z3.2.2.2.2.2.1 koq0) rfl)⟩)
