set_option maxRecDepth 100000 in
theorem kMsQ_155 (n : Nat) (h152 : kMQ_152 n) (h153 : kMQ_153 n) (h154 : kMQ_154 n) : kMQ_155 n := by
  intro i a q r hI hr hp0 hp1 hp2 t nn hT hN hX
  have hG := kG_self wQ hI hr
  refine km_ofI (q := (mi_h155, mi_c155)) rfl (by decide) (Nat.le_of_ble_eq_true rfl) ?_
  intro P hP
  have fi_7439 : ((0 : Int) ≤ (i 7439).toInt) ∧ ((i 7439).toInt ≤ 200) := hG.I.1 7439
  have fi_7437 : ((0 : Int) ≤ (i 7437).toInt) ∧ ((i 7437).toInt ≤ 120) := hG.I.1 7437
  have fi_7429 : ((0 : Int) ≤ (i 7429).toInt) ∧ ((i 7429).toInt ≤ 120) := hG.I.1 7429
  have hn0 : (0 : Int) ≤ (n : Int) := Int.natCast_nonneg n
  have hn1 : (i 7429).toInt = nn.toInt := congrArg Int32.toInt hN
  refine ft_go mi_k155 1 1 [(0, .ref 116)] [.ref 116] i a q r (by rfl) ?_
  refine ko_callI mi_k155.1 (pc := 1) (ls := [(0, .ref 116)]) (st := [.ref 116]) (h := ks i a q r) (i := (.invokevirtual 199, 3, 154, 0, 9, 0, 400)) (mi_k155.2 _ _ (by rfl)) (ft_invS mi_pq154 (by rfl)) (cy := mi_c154) mi_pq154 rfl (h154 _ _ _ _ hG.I hG.R (oq246 hp0) (oq222 hp1) (oq222 hp2) t nn hT hN hX) (kj_d1 (n := n) (o := 12) (o1 := 13) (by decide)) ?_
  intro vg2 ig2 ag2 qg2 rg2 kg2 hg2
  have hGg2 := kG_call hG kg2 (by decide +kernel)
  obtain ⟨hg2, og2⟩ := hg2
  have fig2_7437 : ((0 : Int) ≤ (ig2 7437).toInt) ∧ ((ig2 7437).toInt ≤ 120) := hGg2.I.1 7437
  have fig2_7429 : ((0 : Int) ≤ (ig2 7429).toInt) ∧ ((ig2 7429).toInt ≤ 120) := hGg2.I.1 7429
  have efig2_7429 : (ig2 7429).toInt = (i 7429).toInt := kg2.ti 7429 rfl
  have fig2_7439 : ((0 : Int) ≤ (ig2 7439).toInt) ∧ ((ig2 7439).toInt ≤ 200) := hGg2.I.1 7439
  have z3 : ((ig2 7438).toInt = (i 7438).toInt) ∧ ((i 7437).toInt ≤ (ig2 7437).toInt) ∧ ((ig2 7437).toInt ≤ (ig2 7429).toInt) ∧ (((ig2 7439).toInt - (ig2 7437).toInt) ≤ ((i 7439).toInt - (i 7437).toInt)) ∧ ((i 7439).toInt ≤ (ig2 7439).toInt) ∧ ((0 : Int) ≤ vg2.toInt) ∧ (vg2.toInt ≤ 1) ∧ (((vg2.toInt = 1) → (((i 7437).toInt + 1) ≤ (ig2 7437).toInt))) := hg2
  refine ft_if mi_k155 (vg2 != 0) 9 7 [(0, .ref 116)] [] (by rfl) (fun c => ?_) (fun c => ?_)
  ·
    have c4 : vg2.toInt ≠ (0 : Int32).toInt := kd_ne c; clear c
    refine ft_go mi_k155 1 10 [(0, .ref 116)] [.ref 116] ig2 ag2 qg2 rg2 (by rfl) ?_
    refine ko_callPI mi_k155.1 (pc := 10) (ls := [(0, .ref 116)]) (st := [.ref 116]) (h := ks ig2 ag2 qg2 rg2) (i := (.invokevirtual 166, 3, 147, 0, 9, 0, 404)) (mi_k155.2 _ _ (by rfl)) (ft_invS mi_pq147 (by rfl)) (cy := mi_c147) mi_pq147 rfl (ke147_116 hGg2.I hGg2.R t nn ((kg2.fa 119 rfl).trans hT) ((kg2.fi 7429 rfl).trans hN) hX) (kj_d3 (n := n) (c := 1) (o1 := 13) (by decide)) ?_
    intro vg5 hg5
    obtain ⟨hg5, og5⟩ := hg5
    have z6 : (((-1) : Int) ≤ vg5.toInt) ∧ (vg5.toInt ≤ 255) ∧ ((vg5.toInt = (-1)) ∨ ((ig2 7437).toInt < (ig2 7429).toInt)) := hg5
    have q7 : vg5 = cHr t nn (ig2 7437) 0 := og5
    have hv8 : vg5.toInt = (cHr t nn (ig2 7437) 0).toInt := congrArg Int32.toInt og5
    refine ft_go mi_k155 1 15 [(0, .ref 116)] [.int 60, .int vg5] ig2 ag2 qg2 rg2 (by rfl) ?_
    refine ft_if mi_k155 (vg5 != 60) 23 18 [(0, .ref 116)] [] (by rfl) (fun c => ?_) (fun c => ?_)
    ·
      have c9 : vg5.toInt ≠ (60 : Int32).toInt := kd_ne c; clear c
      refine ft_go mi_k155 1 24 [(0, .ref 116)] [.ref 116] ig2 ag2 qg2 rg2 (by rfl) ?_
      refine ko_callPI mi_k155.1 (pc := 24) (ls := [(0, .ref 116)]) (st := [.ref 116]) (h := ks ig2 ag2 qg2 rg2) (i := (.invokevirtual 166, 3, 147, 0, 9, 0, 404)) (mi_k155.2 _ _ (by rfl)) (ft_invS mi_pq147 (by rfl)) (cy := mi_c147) mi_pq147 rfl (ke147_116 hGg2.I hGg2.R t nn ((kg2.fa 119 rfl).trans hT) ((kg2.fi 7429 rfl).trans hN) hX) (kj_d3 (n := n) (c := 1) (o1 := 13) (by decide)) ?_
      intro vg10 hg10
      obtain ⟨hg10, og10⟩ := hg10
      have z11 : (((-1) : Int) ≤ vg10.toInt) ∧ (vg10.toInt ≤ 255) ∧ ((vg10.toInt = (-1)) ∨ ((ig2 7437).toInt < (ig2 7429).toInt)) := hg10
      have q12 : vg10 = cHr t nn (ig2 7437) 0 := og10
      have hv13 : vg10.toInt = (cHr t nn (ig2 7437) 0).toInt := congrArg Int32.toInt og10
      refine ft_go mi_k155 1 29 [(0, .ref 116)] [.int 61, .int vg10] ig2 ag2 qg2 rg2 (by rfl) ?_
      refine ft_if mi_k155 (vg10 != 61) 37 32 [(0, .ref 116)] [] (by rfl) (fun c => ?_) (fun c => ?_)
      ·
        have c14 : vg10.toInt ≠ (61 : Int32).toInt := kd_ne c; clear c
        refine ft_go mi_k155 1 38 [(0, .ref 116)] [.ref 116] ig2 ag2 qg2 rg2 (by rfl) ?_
        refine ko_callPI mi_k155.1 (pc := 38) (ls := [(0, .ref 116)]) (st := [.ref 116]) (h := ks ig2 ag2 qg2 rg2) (i := (.invokevirtual 166, 3, 147, 0, 9, 0, 404)) (mi_k155.2 _ _ (by rfl)) (ft_invS mi_pq147 (by rfl)) (cy := mi_c147) mi_pq147 rfl (ke147_116 hGg2.I hGg2.R t nn ((kg2.fa 119 rfl).trans hT) ((kg2.fi 7429 rfl).trans hN) hX) (kj_d3 (n := n) (c := 1) (o1 := 13) (by decide)) ?_
        intro vg15 hg15
        obtain ⟨hg15, og15⟩ := hg15
        have z16 : (((-1) : Int) ≤ vg15.toInt) ∧ (vg15.toInt ≤ 255) ∧ ((vg15.toInt = (-1)) ∨ ((ig2 7437).toInt < (ig2 7429).toInt)) := hg15
        have q17 : vg15 = cHr t nn (ig2 7437) 0 := og15
        have hv18 : vg15.toInt = (cHr t nn (ig2 7437) 0).toInt := congrArg Int32.toInt og15
        refine ft_go mi_k155 1 43 [(0, .ref 116)] [.int 62, .int vg15] ig2 ag2 qg2 rg2 (by rfl) ?_
        refine ft_if mi_k155 (vg15 != 62) 51 46 [(0, .ref 116)] [] (by rfl) (fun c => ?_) (fun c => ?_)
        ·
          have c19 : vg15.toInt ≠ (62 : Int32).toInt := kd_ne c; clear c
          refine ft_go mi_k155 5 58 [(1, .int (-1)), (0, .ref 116)] [.int 1] ig2 ag2 qg2 rg2 (by rfl) ?_
          exact ft_ret mi_k155 (by rfl) (hP 1 _ _ _ _ hGg2 ⟨(oq308 c4 z3.1 z3.2.1 z3.2.2.1 z3.2.2.2.1 z3.2.2.2.2.1 z3.2.2.2.2.2.1 z3.2.2.2.2.2.2.1 z3.2.2.2.2.2.2.2 koq0 koq1), (rCm_one og2 (oq151 c4 z3.2.2.2.2.2.1 koq0) (opCmp_of (x := (cHr t nn (ig2 7437) 0)) (g := (-1)) (Or.inr (Or.inr (Or.inr (⟨(oq309 c9 hv8 koq60), (oq310 c14 c9 hv13 hv8 koq61 koq60), (oq311 c14 c19 c9 hv13 hv18 hv8 koq61 koq62 koq60), (oq251 koqm1)⟩))))) (oq252 koqm1) rfl)⟩)
        ·
          have c20 : vg15.toInt = (62 : Int32).toInt := kd_neF c; clear c
          have s21 : ((ig2 7437) + 1).toInt = (ig2 7437).toInt + (1 : Int32).toInt := kd_add (oq115 fig2_7437.1 koq1) (oq116 fig2_7437.2 koq1)
          have hJ22 := kG_i hGg2 7437 rfl (v := ((ig2 7437) + 1)) ⟨(oq117 fig2_7437.1 s21 koq1), (oq312 c20 fig2_7429.2 hv18 hv8 s21 z6.2.2 koq62 koq1)⟩
          refine ft_go mi_k155 12 70 [(1, .int 10), (0, .ref 116)] [.ref 116] (ku ig2 7437 ((ig2 7437) + 1)) ag2 qg2 rg2 (by rfl) ?_
          refine ko_callI mi_k155.1 (pc := 70) (ls := [(1, .int 10), (0, .ref 116)]) (st := [.ref 116]) (h := ks (ku ig2 7437 ((ig2 7437) + 1)) ag2 qg2 rg2) (i := (.invokevirtual 199, 3, 154, 0, 9, 0, 400)) (mi_k155.2 _ _ (by rfl)) (ft_invS mi_pq154 (by rfl)) (cy := mi_c154) mi_pq154 rfl (h154 _ _ _ _ hJ22.I hJ22.R (oq291 hp0 z3.1) (oq313 hp1 s21 z3.2.2.2.1 koq1) (oq314 c20 hv18 hv8 s21 z6.2.2 koq62 koq1) t nn ((kg2.fa 119 rfl).trans hT) ((kg2.fi 7429 rfl).trans hN) hX) (kj_d1 (n := n) (o := 12) (o1 := 13) (by decide)) ?_
          intro vg23 ig23 ag23 qg23 rg23 kg23 hg23
          have hGg23 := kG_call hJ22 kg23 (by decide +kernel)
          obtain ⟨hg23, og23⟩ := hg23
          have fig23_7437 : ((0 : Int) ≤ (ig23 7437).toInt) ∧ ((ig23 7437).toInt ≤ 120) := hGg23.I.1 7437
          have fig23_7429 : ((0 : Int) ≤ (ig23 7429).toInt) ∧ ((ig23 7429).toInt ≤ 120) := hGg23.I.1 7429
          have efig23_7429 : (ig23 7429).toInt = (ig2 7429).toInt := kg23.ti 7429 rfl
          have fig23_7439 : ((0 : Int) ≤ (ig23 7439).toInt) ∧ ((ig23 7439).toInt ≤ 200) := hGg23.I.1 7439
          have z24 : ((ig23 7438).toInt = (ig2 7438).toInt) ∧ (((ig2 7437) + 1).toInt ≤ (ig23 7437).toInt) ∧ ((ig23 7437).toInt ≤ (ig23 7429).toInt) ∧ (((ig23 7439).toInt - (ig23 7437).toInt) ≤ ((ig2 7439).toInt - ((ig2 7437) + 1).toInt)) ∧ ((ig2 7439).toInt ≤ (ig23 7439).toInt) ∧ ((0 : Int) ≤ vg23.toInt) ∧ (vg23.toInt ≤ 1) ∧ (((vg23.toInt = 1) → ((((ig2 7437) + 1).toInt + 1) ≤ (ig23 7437).toInt))) := hg23
          refine ft_if mi_k155 (vg23 == 0) 88 76 [(1, .int 10), (0, .ref 116)] [] (by rfl) (fun c => ?_) (fun c => ?_)
          ·
            have c25 : vg23.toInt = (0 : Int32).toInt := kd_eq c; clear c
            refine ft_go mi_k155 1 89 [(1, .int 10), (0, .ref 116)] [.int 0] ig23 ag23 qg23 rg23 (by rfl) ?_
            exact ft_ret mi_k155 (by rfl) (hP 0 _ _ _ _ hGg23 ⟨(oq315 s21 z24.1 z24.2.1 z24.2.2.1 z24.2.2.2.1 z24.2.2.2.2.1 z3.1 z3.2.1 z3.2.2.2.1 z3.2.2.2.2.1 koq1 koq0), (rCm_two og2 (oq151 c4 z3.2.2.2.2.2.1 koq0) (opCmp_of (x := (cHr t nn (ig2 7437) 0)) (g := 10) (Or.inr (Or.inr (Or.inl ⟨(oq316 c20 hv18 koq62), (oq317 koq10)⟩)))) (oq318 koq10) og23 (rC2_no (oq143 c25 z24.2.2.2.2.2.1 koq0) rfl))⟩)
          ·
            have c26 : vg23.toInt ≠ (0 : Int32).toInt := kd_eqF c; clear c
            refine ft_go mi_k155 2 78 [(1, .int 10), (0, .ref 116)] [.int 10, .ref 116] ig23 ag23 qg23 rg23 (by rfl) ?_
            refine ko_callI mi_k155.1 (pc := 78) (ls := [(1, .int 10), (0, .ref 116)]) (st := [.int 10, .ref 116]) (h := ks ig23 ag23 qg23 rg23) (i := (.invokevirtual 177, 3, 149, 0, 9, 0, 405)) (mi_k155.2 _ _ (by rfl)) (ft_invS mi_pq149 (by rfl)) (cy := mi_c149) mi_pq149 rfl (kf149_116 hGg23.I hGg23.R 10 (oq319 fig23_7437.2 fig23_7439.1 hp1 s21 z24.2.2.2.1 z3.2.2.2.1 koq1)) (kj_d3 (n := n) (c := 1) (o1 := 13) (by decide)) ?_
            intro vg27 ig27 ag27 qg27 rg27 kg27 hg27
            have hGg27 := kG_call hGg23 kg27 (by decide +kernel)
            obtain ⟨hg27, og27⟩ := hg27
            have fig27_7439 : ((0 : Int) ≤ (ig27 7439).toInt) ∧ ((ig27 7439).toInt ≤ 200) := hGg27.I.1 7439
            have z28 : (vg27.toInt = 1) ∧ ((ig27 7439).toInt = ((ig23 7439).toInt + 1)) := hg27
            have q29 : ag27 127 = (ag23 127).set (ig23 7439).toNatClampNeg (10 : Int32) := og27.1
            have q30 : ig27 7439 = ig23 7439 + 1 := og27.2
            refine ft_if mi_k155 (vg27 == 0) 88 84 [(1, .int 10), (0, .ref 116)] [] (by rfl) (fun c => ?_) (fun c => ?_)
            ·
              have c31 : vg27.toInt = (0 : Int32).toInt := kd_eq c; clear c
              exact (oq169 c31 z28.1 koq0).elim
            ·
              have c32 : vg27.toInt ≠ (0 : Int32).toInt := kd_eqF c; clear c
              refine ft_go mi_k155 2 89 [(1, .int 10), (0, .ref 116)] [.int 1] ig27 ag27 qg27 rg27 (by rfl) ?_
              have efig27_7438 : (ig27 7438).toInt = (ig23 7438).toInt := kg27.ti 7438 rfl
              have fig27_7437 : ((0 : Int) ≤ (ig27 7437).toInt) ∧ ((ig27 7437).toInt ≤ 120) := hGg27.I.1 7437
              have efig27_7437 : (ig27 7437).toInt = (ig23 7437).toInt := kg27.ti 7437 rfl
              have fig27_7429 : ((0 : Int) ≤ (ig27 7429).toInt) ∧ ((ig27 7429).toInt ≤ 120) := hGg27.I.1 7429
              have efig27_7429 : (ig27 7429).toInt = (ig23 7429).toInt := kg27.ti 7429 rfl
              exact ft_ret mi_k155 (by rfl) (hP 1 _ _ _ _ hGg27 ⟨(oq320 efig27_7429 efig27_7437 efig27_7438 s21 z24.1 z24.2.1 z24.2.2.1 z24.2.2.2.1 z24.2.2.2.2.1 z28.2 z3.1 z3.2.1 z3.2.2.2.1 z3.2.2.2.2.1 koq1), (rCm_two og2 (oq151 c4 z3.2.2.2.2.2.1 koq0) (opCmp_of (x := (cHr t nn (ig2 7437) 0)) (g := 10) (Or.inr (Or.inr (Or.inl ⟨(oq316 c20 hv18 koq62), (oq317 koq10)⟩)))) (oq318 koq10) og23 (rC2_yes (oq151 c26 z24.2.2.2.2.2.1 koq0) (tCod og27.1 og27.2 (kg27.fi 7437 rfl)) rfl))⟩)
      ·
        have c33 : vg10.toInt = (61 : Int32).toInt := kd_neF c; clear c
        have s34 : ((ig2 7437) + 1).toInt = (ig2 7437).toInt + (1 : Int32).toInt := kd_add (oq115 fig2_7437.1 koq1) (oq116 fig2_7437.2 koq1)
        have hJ35 := kG_i hGg2 7437 rfl (v := ((ig2 7437) + 1)) ⟨(oq117 fig2_7437.1 s34 koq1), (oq321 c33 fig2_7429.2 hv13 hv8 s34 z6.2.2 koq61 koq1)⟩
        refine ft_go mi_k155 12 70 [(1, .int 9), (0, .ref 116)] [.ref 116] (ku ig2 7437 ((ig2 7437) + 1)) ag2 qg2 rg2 (by rfl) ?_
        refine ko_callI mi_k155.1 (pc := 70) (ls := [(1, .int 9), (0, .ref 116)]) (st := [.ref 116]) (h := ks (ku ig2 7437 ((ig2 7437) + 1)) ag2 qg2 rg2) (i := (.invokevirtual 199, 3, 154, 0, 9, 0, 400)) (mi_k155.2 _ _ (by rfl)) (ft_invS mi_pq154 (by rfl)) (cy := mi_c154) mi_pq154 rfl (h154 _ _ _ _ hJ35.I hJ35.R (oq291 hp0 z3.1) (oq313 hp1 s34 z3.2.2.2.1 koq1) (oq322 c33 hv13 hv8 s34 z6.2.2 koq61 koq1) t nn ((kg2.fa 119 rfl).trans hT) ((kg2.fi 7429 rfl).trans hN) hX) (kj_d1 (n := n) (o := 12) (o1 := 13) (by decide)) ?_
        intro vg36 ig36 ag36 qg36 rg36 kg36 hg36
        have hGg36 := kG_call hJ35 kg36 (by decide +kernel)
        obtain ⟨hg36, og36⟩ := hg36
        have fig36_7437 : ((0 : Int) ≤ (ig36 7437).toInt) ∧ ((ig36 7437).toInt ≤ 120) := hGg36.I.1 7437
        have fig36_7429 : ((0 : Int) ≤ (ig36 7429).toInt) ∧ ((ig36 7429).toInt ≤ 120) := hGg36.I.1 7429
        have efig36_7429 : (ig36 7429).toInt = (ig2 7429).toInt := kg36.ti 7429 rfl
        have fig36_7439 : ((0 : Int) ≤ (ig36 7439).toInt) ∧ ((ig36 7439).toInt ≤ 200) := hGg36.I.1 7439
        have z37 : ((ig36 7438).toInt = (ig2 7438).toInt) ∧ (((ig2 7437) + 1).toInt ≤ (ig36 7437).toInt) ∧ ((ig36 7437).toInt ≤ (ig36 7429).toInt) ∧ (((ig36 7439).toInt - (ig36 7437).toInt) ≤ ((ig2 7439).toInt - ((ig2 7437) + 1).toInt)) ∧ ((ig2 7439).toInt ≤ (ig36 7439).toInt) ∧ ((0 : Int) ≤ vg36.toInt) ∧ (vg36.toInt ≤ 1) ∧ (((vg36.toInt = 1) → ((((ig2 7437) + 1).toInt + 1) ≤ (ig36 7437).toInt))) := hg36
        refine ft_if mi_k155 (vg36 == 0) 88 76 [(1, .int 9), (0, .ref 116)] [] (by rfl) (fun c => ?_) (fun c => ?_)
        ·
          have c38 : vg36.toInt = (0 : Int32).toInt := kd_eq c; clear c
          refine ft_go mi_k155 1 89 [(1, .int 9), (0, .ref 116)] [.int 0] ig36 ag36 qg36 rg36 (by rfl) ?_
          exact ft_ret mi_k155 (by rfl) (hP 0 _ _ _ _ hGg36 ⟨(oq323 s34 z3.1 z3.2.1 z3.2.2.2.1 z3.2.2.2.2.1 z37.1 z37.2.1 z37.2.2.1 z37.2.2.2.1 z37.2.2.2.2.1 koq1 koq0), (rCm_two og2 (oq151 c4 z3.2.2.2.2.2.1 koq0) (opCmp_of (x := (cHr t nn (ig2 7437) 0)) (g := 9) (Or.inr (Or.inl ⟨(oq324 c33 hv13 koq61), (oq325 koq9)⟩))) (oq326 koq9) og36 (rC2_no (oq143 c38 z37.2.2.2.2.2.1 koq0) rfl))⟩)
        ·
          have c39 : vg36.toInt ≠ (0 : Int32).toInt := kd_eqF c; clear c
          refine ft_go mi_k155 2 78 [(1, .int 9), (0, .ref 116)] [.int 9, .ref 116] ig36 ag36 qg36 rg36 (by rfl) ?_
          refine ko_callI mi_k155.1 (pc := 78) (ls := [(1, .int 9), (0, .ref 116)]) (st := [.int 9, .ref 116]) (h := ks ig36 ag36 qg36 rg36) (i := (.invokevirtual 177, 3, 149, 0, 9, 0, 405)) (mi_k155.2 _ _ (by rfl)) (ft_invS mi_pq149 (by rfl)) (cy := mi_c149) mi_pq149 rfl (kf149_116 hGg36.I hGg36.R 9 (oq327 fig36_7437.2 fig36_7439.1 hp1 s34 z3.2.2.2.1 z37.2.2.2.1 koq1)) (kj_d3 (n := n) (c := 1) (o1 := 13) (by decide)) ?_
          intro vg40 ig40 ag40 qg40 rg40 kg40 hg40
          have hGg40 := kG_call hGg36 kg40 (by decide +kernel)
          obtain ⟨hg40, og40⟩ := hg40
          have fig40_7439 : ((0 : Int) ≤ (ig40 7439).toInt) ∧ ((ig40 7439).toInt ≤ 200) := hGg40.I.1 7439
          have z41 : (vg40.toInt = 1) ∧ ((ig40 7439).toInt = ((ig36 7439).toInt + 1)) := hg40
          have q42 : ag40 127 = (ag36 127).set (ig36 7439).toNatClampNeg (9 : Int32) := og40.1
          have q43 : ig40 7439 = ig36 7439 + 1 := og40.2
          refine ft_if mi_k155 (vg40 == 0) 88 84 [(1, .int 9), (0, .ref 116)] [] (by rfl) (fun c => ?_) (fun c => ?_)
          ·
            have c44 : vg40.toInt = (0 : Int32).toInt := kd_eq c; clear c
            exact (oq169 c44 z41.1 koq0).elim
          ·
            have c45 : vg40.toInt ≠ (0 : Int32).toInt := kd_eqF c; clear c
            refine ft_go mi_k155 2 89 [(1, .int 9), (0, .ref 116)] [.int 1] ig40 ag40 qg40 rg40 (by rfl) ?_
            have efig40_7438 : (ig40 7438).toInt = (ig36 7438).toInt := kg40.ti 7438 rfl
            have fig40_7437 : ((0 : Int) ≤ (ig40 7437).toInt) ∧ ((ig40 7437).toInt ≤ 120) := hGg40.I.1 7437
            have efig40_7437 : (ig40 7437).toInt = (ig36 7437).toInt := kg40.ti 7437 rfl
            have fig40_7429 : ((0 : Int) ≤ (ig40 7429).toInt) ∧ ((ig40 7429).toInt ≤ 120) := hGg40.I.1 7429
            have efig40_7429 : (ig40 7429).toInt = (ig36 7429).toInt := kg40.ti 7429 rfl
            exact ft_ret mi_k155 (by rfl) (hP 1 _ _ _ _ hGg40 ⟨(oq328 efig40_7429 efig40_7437 efig40_7438 s34 z3.1 z3.2.1 z3.2.2.2.1 z3.2.2.2.2.1 z37.1 z37.2.1 z37.2.2.1 z37.2.2.2.1 z37.2.2.2.2.1 z41.2 koq1), (rCm_two og2 (oq151 c4 z3.2.2.2.2.2.1 koq0) (opCmp_of (x := (cHr t nn (ig2 7437) 0)) (g := 9) (Or.inr (Or.inl ⟨(oq324 c33 hv13 koq61), (oq325 koq9)⟩))) (oq326 koq9) og36 (rC2_yes (oq151 c39 z37.2.2.2.2.2.1 koq0) (tCod og40.1 og40.2 (kg40.fi 7437 rfl)) rfl))⟩)
    ·
      have c46 : vg5.toInt = (60 : Int32).toInt := kd_neF c; clear c
      have s47 : ((ig2 7437) + 1).toInt = (ig2 7437).toInt + (1 : Int32).toInt := kd_add (oq115 fig2_7437.1 koq1) (oq116 fig2_7437.2 koq1)
      have hJ48 := kG_i hGg2 7437 rfl (v := ((ig2 7437) + 1)) ⟨(oq117 fig2_7437.1 s47 koq1), (oq329 c46 fig2_7429.2 s47 z6.2.2 koq60 koq1)⟩
      refine ft_go mi_k155 12 70 [(1, .int 8), (0, .ref 116)] [.ref 116] (ku ig2 7437 ((ig2 7437) + 1)) ag2 qg2 rg2 (by rfl) ?_
      refine ko_callI mi_k155.1 (pc := 70) (ls := [(1, .int 8), (0, .ref 116)]) (st := [.ref 116]) (h := ks (ku ig2 7437 ((ig2 7437) + 1)) ag2 qg2 rg2) (i := (.invokevirtual 199, 3, 154, 0, 9, 0, 400)) (mi_k155.2 _ _ (by rfl)) (ft_invS mi_pq154 (by rfl)) (cy := mi_c154) mi_pq154 rfl (h154 _ _ _ _ hJ48.I hJ48.R (oq291 hp0 z3.1) (oq313 hp1 s47 z3.2.2.2.1 koq1) (oq330 c46 s47 z6.2.2 koq60 koq1) t nn ((kg2.fa 119 rfl).trans hT) ((kg2.fi 7429 rfl).trans hN) hX) (kj_d1 (n := n) (o := 12) (o1 := 13) (by decide)) ?_
      intro vg49 ig49 ag49 qg49 rg49 kg49 hg49
      have hGg49 := kG_call hJ48 kg49 (by decide +kernel)
      obtain ⟨hg49, og49⟩ := hg49
      have fig49_7437 : ((0 : Int) ≤ (ig49 7437).toInt) ∧ ((ig49 7437).toInt ≤ 120) := hGg49.I.1 7437
      have fig49_7429 : ((0 : Int) ≤ (ig49 7429).toInt) ∧ ((ig49 7429).toInt ≤ 120) := hGg49.I.1 7429
      have efig49_7429 : (ig49 7429).toInt = (ig2 7429).toInt := kg49.ti 7429 rfl
      have fig49_7439 : ((0 : Int) ≤ (ig49 7439).toInt) ∧ ((ig49 7439).toInt ≤ 200) := hGg49.I.1 7439
      have z50 : ((ig49 7438).toInt = (ig2 7438).toInt) ∧ (((ig2 7437) + 1).toInt ≤ (ig49 7437).toInt) ∧ ((ig49 7437).toInt ≤ (ig49 7429).toInt) ∧ (((ig49 7439).toInt - (ig49 7437).toInt) ≤ ((ig2 7439).toInt - ((ig2 7437) + 1).toInt)) ∧ ((ig2 7439).toInt ≤ (ig49 7439).toInt) ∧ ((0 : Int) ≤ vg49.toInt) ∧ (vg49.toInt ≤ 1) ∧ (((vg49.toInt = 1) → ((((ig2 7437) + 1).toInt + 1) ≤ (ig49 7437).toInt))) := hg49
      refine ft_if mi_k155 (vg49 == 0) 88 76 [(1, .int 8), (0, .ref 116)] [] (by rfl) (fun c => ?_) (fun c => ?_)
      ·
        have c51 : vg49.toInt = (0 : Int32).toInt := kd_eq c; clear c
        refine ft_go mi_k155 1 89 [(1, .int 8), (0, .ref 116)] [.int 0] ig49 ag49 qg49 rg49 (by rfl) ?_
        exact ft_ret mi_k155 (by rfl) (hP 0 _ _ _ _ hGg49 ⟨(oq323 s47 z3.1 z3.2.1 z3.2.2.2.1 z3.2.2.2.2.1 z50.1 z50.2.1 z50.2.2.1 z50.2.2.2.1 z50.2.2.2.2.1 koq1 koq0), (rCm_two og2 (oq151 c4 z3.2.2.2.2.2.1 koq0) (opCmp_of (x := (cHr t nn (ig2 7437) 0)) (g := 8) (Or.inl ⟨(oq331 c46 hv8 koq60), (oq332 koq8)⟩)) (oq333 koq8) og49 (rC2_no (oq143 c51 z50.2.2.2.2.2.1 koq0) rfl))⟩)
      ·
        have c52 : vg49.toInt ≠ (0 : Int32).toInt := kd_eqF c; clear c
        refine ft_go mi_k155 2 78 [(1, .int 8), (0, .ref 116)] [.int 8, .ref 116] ig49 ag49 qg49 rg49 (by rfl) ?_
        refine ko_callI mi_k155.1 (pc := 78) (ls := [(1, .int 8), (0, .ref 116)]) (st := [.int 8, .ref 116]) (h := ks ig49 ag49 qg49 rg49) (i := (.invokevirtual 177, 3, 149, 0, 9, 0, 405)) (mi_k155.2 _ _ (by rfl)) (ft_invS mi_pq149 (by rfl)) (cy := mi_c149) mi_pq149 rfl (kf149_116 hGg49.I hGg49.R 8 (oq327 fig49_7437.2 fig49_7439.1 hp1 s47 z3.2.2.2.1 z50.2.2.2.1 koq1)) (kj_d3 (n := n) (c := 1) (o1 := 13) (by decide)) ?_
        intro vg53 ig53 ag53 qg53 rg53 kg53 hg53
        have hGg53 := kG_call hGg49 kg53 (by decide +kernel)
        obtain ⟨hg53, og53⟩ := hg53
        have fig53_7439 : ((0 : Int) ≤ (ig53 7439).toInt) ∧ ((ig53 7439).toInt ≤ 200) := hGg53.I.1 7439
        have z54 : (vg53.toInt = 1) ∧ ((ig53 7439).toInt = ((ig49 7439).toInt + 1)) := hg53
        have q55 : ag53 127 = (ag49 127).set (ig49 7439).toNatClampNeg (8 : Int32) := og53.1
        have q56 : ig53 7439 = ig49 7439 + 1 := og53.2
        refine ft_if mi_k155 (vg53 == 0) 88 84 [(1, .int 8), (0, .ref 116)] [] (by rfl) (fun c => ?_) (fun c => ?_)
        ·
          have c57 : vg53.toInt = (0 : Int32).toInt := kd_eq c; clear c
          exact (oq169 c57 z54.1 koq0).elim
        ·
          have c58 : vg53.toInt ≠ (0 : Int32).toInt := kd_eqF c; clear c
          refine ft_go mi_k155 2 89 [(1, .int 8), (0, .ref 116)] [.int 1] ig53 ag53 qg53 rg53 (by rfl) ?_
          have efig53_7438 : (ig53 7438).toInt = (ig49 7438).toInt := kg53.ti 7438 rfl
          have fig53_7437 : ((0 : Int) ≤ (ig53 7437).toInt) ∧ ((ig53 7437).toInt ≤ 120) := hGg53.I.1 7437
          have efig53_7437 : (ig53 7437).toInt = (ig49 7437).toInt := kg53.ti 7437 rfl
          have fig53_7429 : ((0 : Int) ≤ (ig53 7429).toInt) ∧ ((ig53 7429).toInt ≤ 120) := hGg53.I.1 7429
          have efig53_7429 : (ig53 7429).toInt = (ig49 7429).toInt := kg53.ti 7429 rfl
          exact ft_ret mi_k155 (by rfl) (hP 1 _ _ _ _ hGg53 ⟨(oq328 efig53_7429 efig53_7437 efig53_7438 s47 z3.1 z3.2.1 z3.2.2.2.1 z3.2.2.2.2.1 z50.1 z50.2.1 z50.2.2.1 z50.2.2.2.1 z50.2.2.2.2.1 z54.2 koq1), (rCm_two og2 (oq151 c4 z3.2.2.2.2.2.1 koq0) (opCmp_of (x := (cHr t nn (ig2 7437) 0)) (g := 8) (Or.inl ⟨(oq331 c46 hv8 koq60), (oq332 koq8)⟩)) (oq333 koq8) og49 (rC2_yes (oq151 c52 z50.2.2.2.2.2.1 koq0) (tCod og53.1 og53.2 (kg53.fi 7437 rfl)) rfl))⟩)
  ·
    have c59 : vg2.toInt = (0 : Int32).toInt := kd_neF c; clear c
    refine ft_go mi_k155 1 8 [(0, .ref 116)] [.int 0] ig2 ag2 qg2 rg2 (by rfl) ?_
    exact ft_ret mi_k155 (by rfl) (hP 0 _ _ _ _ hGg2 ⟨(oq289 z3.1 z3.2.1 z3.2.2.1 z3.2.2.2.1 z3.2.2.2.2.1 koq0), (rCm_no og2 (oq143 c59 z3.2.2.2.2.2.1 koq0) rfl)⟩)
