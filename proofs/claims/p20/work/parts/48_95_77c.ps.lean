set_option maxRecDepth 100000 in
theorem kMsQ_153 (n : Nat) (h152 : kMQ_152 n) : kMQ_153 n := by
  intro i a q r hI hr hp0 hp1 hp2 t nn hT hN hX
  have hG := kG_self wQ hI hr
  refine km_ofI (q := (mi_h153, mi_c153)) rfl (by decide) (Nat.le_of_ble_eq_true rfl) ?_
  intro P hP
  have hn0 : (0 : Int) ≤ (n : Int) := Int.natCast_nonneg n
  have hn1 : (i 7429).toInt = nn.toInt := congrArg Int32.toInt hN
  refine ft_go mi_k153 1 1 [(0, .ref 116)] [.ref 116] i a q r (by rfl) ?_
  refine ko_callI mi_k153.1 (pc := 1) (ls := [(0, .ref 116)]) (st := [.ref 116]) (h := ks i a q r) (i := (.invokevirtual 190, 3, 152, 0, 9, 0, 402)) (mi_k153.2 _ _ (by rfl)) (ft_invS mi_pq152 (by rfl)) (cy := mi_c152) mi_pq152 rfl (h152 _ _ _ _ hG.I hG.R (oq246 hp0) (oq222 hp1) (oq222 hp2) t nn hT hN hX) (kj_d1 (n := n) (o := 10) (o1 := 11) (by decide)) ?_
  intro vg2 ig2 ag2 qg2 rg2 kg2 hg2
  have hGg2 := kG_call hG kg2 (by decide +kernel)
  obtain ⟨hg2, og2⟩ := hg2
  have fig2_7437 : ((0 : Int) ≤ (ig2 7437).toInt) ∧ ((ig2 7437).toInt ≤ 120) := hGg2.I.1 7437
  have efig2_7429 : (ig2 7429).toInt = (i 7429).toInt := kg2.ti 7429 rfl
  have z3 : ((ig2 7438).toInt = (i 7438).toInt) ∧ ((i 7437).toInt ≤ (ig2 7437).toInt) ∧ ((ig2 7437).toInt ≤ (ig2 7429).toInt) ∧ (((ig2 7439).toInt - (ig2 7437).toInt) ≤ ((i 7439).toInt - (i 7437).toInt)) ∧ ((i 7439).toInt ≤ (ig2 7439).toInt) ∧ ((0 : Int) ≤ vg2.toInt) ∧ (vg2.toInt ≤ 1) ∧ (((vg2.toInt = 1) → (((i 7437).toInt + 1) ≤ (ig2 7437).toInt))) := hg2
  refine ft_if mi_k153 (vg2 != 0) 9 7 [(0, .ref 116)] [] (by rfl) (fun c => ?_) (fun c => ?_)
  ·
    have c4 : vg2.toInt ≠ (0 : Int32).toInt := kd_ne c; clear c
    have lp5 : ∀ (nz : Nat) (i5 : Nat → Int32) (a5 : Nat → List Int32) (q5 : Nat → List Int64) (r5 : Nat → Nat), kG yw153_116_L9 ig2 ag2 qg2 rg2 i5 a5 q5 r5 → (i5 7438).toInt = (i 7438).toInt → (i 7437).toInt ≤ (i5 7437).toInt → (i5 7437).toInt ≤ (i5 7429).toInt → ((i5 7439).toInt - (i5 7437).toInt) ≤ ((i 7439).toInt - (i 7437).toInt) → (i 7439).toInt ≤ (i5 7439).toInt → ((i 7437).toInt + 1) ≤ (i5 7437).toInt → rGo t nn (rO t nn n) opMul (i5 7437, i5 7439, a5 127) (rMul t nn (rO t nn n) opMul (i 7437, i 7439, a 127)) → (((i5 7429).toInt - (i5 7437).toInt)).toNat < nz → ko (6 * n + 11) (mi_h153, mi_c153) P (9, [(0, .ref 116)], [], (0, 0), ks i5 a5 q5 r5) := by
      intro nz
      induction nz with
      | zero =>
        intro _ _ _ _ _ _ _ _ _ _ _ _ hm
        exact absurd hm (Nat.not_lt_zero _)
      | succ nz ih5 =>
        intro i5 a5 q5 r5 hL5 p5_0 p5_1 p5_2 p5_3 p5_4 p5_5 O5_0 hm5
        have fi5_7437 : ((0 : Int) ≤ (i5 7437).toInt) ∧ ((i5 7437).toInt ≤ 120) := hL5.I.1 7437
        have fi5_7429 : ((0 : Int) ≤ (i5 7429).toInt) ∧ ((i5 7429).toInt ≤ 120) := hL5.I.1 7429
        have efi5_7429 : (i5 7429).toInt = (ig2 7429).toInt := hL5.ti 7429 rfl
        refine ft_go mi_k153 1 10 [(0, .ref 116)] [.ref 116] i5 a5 q5 r5 (by rfl) ?_
        refine ko_callPI mi_k153.1 (pc := 10) (ls := [(0, .ref 116)]) (st := [.ref 116]) (h := ks i5 a5 q5 r5) (i := (.invokevirtual 166, 3, 147, 0, 9, 0, 404)) (mi_k153.2 _ _ (by rfl)) (ft_invS mi_pq147 (by rfl)) (cy := mi_c147) mi_pq147 rfl (ke147_116 hL5.I hL5.R t nn (((hL5.fa 119 rfl).trans (kg2.fa 119 rfl)).trans hT) (((hL5.fi 7429 rfl).trans (kg2.fi 7429 rfl)).trans hN) hX) (kj_d3 (n := n) (c := 1) (o1 := 11) (by decide)) ?_
        intro vg6 hg6
        obtain ⟨hg6, og6⟩ := hg6
        have z7 : (((-1) : Int) ≤ vg6.toInt) ∧ (vg6.toInt ≤ 255) ∧ ((vg6.toInt = (-1)) ∨ ((i5 7437).toInt < (i5 7429).toInt)) := hg6
        have q8 : vg6 = cHr t nn (i5 7437) 0 := og6
        have hv9 : vg6.toInt = (cHr t nn (i5 7437) 0).toInt := congrArg Int32.toInt og6
        refine ft_go mi_k153 1 15 [(0, .ref 116)] [.int 42, .int vg6] i5 a5 q5 r5 (by rfl) ?_
        refine ft_if mi_k153 (vg6 != 42) 23 18 [(0, .ref 116)] [] (by rfl) (fun c => ?_) (fun c => ?_)
        ·
          have c10 : vg6.toInt ≠ (42 : Int32).toInt := kd_ne c; clear c
          refine ft_go mi_k153 1 24 [(0, .ref 116)] [.ref 116] i5 a5 q5 r5 (by rfl) ?_
          refine ko_callPI mi_k153.1 (pc := 24) (ls := [(0, .ref 116)]) (st := [.ref 116]) (h := ks i5 a5 q5 r5) (i := (.invokevirtual 166, 3, 147, 0, 9, 0, 404)) (mi_k153.2 _ _ (by rfl)) (ft_invS mi_pq147 (by rfl)) (cy := mi_c147) mi_pq147 rfl (ke147_116 hL5.I hL5.R t nn (((hL5.fa 119 rfl).trans (kg2.fa 119 rfl)).trans hT) (((hL5.fi 7429 rfl).trans (kg2.fi 7429 rfl)).trans hN) hX) (kj_d3 (n := n) (c := 1) (o1 := 11) (by decide)) ?_
          intro vg11 hg11
          obtain ⟨hg11, og11⟩ := hg11
          have q13 : vg11 = cHr t nn (i5 7437) 0 := og11
          have hv14 : vg11.toInt = (cHr t nn (i5 7437) 0).toInt := congrArg Int32.toInt og11
          refine ft_go mi_k153 1 29 [(0, .ref 116)] [.int 47, .int vg11] i5 a5 q5 r5 (by rfl) ?_
          refine ft_if mi_k153 (vg11 != 47) 37 32 [(0, .ref 116)] [] (by rfl) (fun c => ?_) (fun c => ?_)
          ·
            have c15 : vg11.toInt ≠ (47 : Int32).toInt := kd_ne c; clear c
            refine ft_go mi_k153 1 38 [(0, .ref 116)] [.ref 116] i5 a5 q5 r5 (by rfl) ?_
            refine ko_callPI mi_k153.1 (pc := 38) (ls := [(0, .ref 116)]) (st := [.ref 116]) (h := ks i5 a5 q5 r5) (i := (.invokevirtual 166, 3, 147, 0, 9, 0, 404)) (mi_k153.2 _ _ (by rfl)) (ft_invS mi_pq147 (by rfl)) (cy := mi_c147) mi_pq147 rfl (ke147_116 hL5.I hL5.R t nn (((hL5.fa 119 rfl).trans (kg2.fa 119 rfl)).trans hT) (((hL5.fi 7429 rfl).trans (kg2.fi 7429 rfl)).trans hN) hX) (kj_d3 (n := n) (c := 1) (o1 := 11) (by decide)) ?_
            intro vg16 hg16
            obtain ⟨hg16, og16⟩ := hg16
            have q18 : vg16 = cHr t nn (i5 7437) 0 := og16
            have hv19 : vg16.toInt = (cHr t nn (i5 7437) 0).toInt := congrArg Int32.toInt og16
            refine ft_go mi_k153 1 43 [(0, .ref 116)] [.int 37, .int vg16] i5 a5 q5 r5 (by rfl) ?_
            refine ft_if mi_k153 (vg16 != 37) 51 46 [(0, .ref 116)] [] (by rfl) (fun c => ?_) (fun c => ?_)
            ·
              have c20 : vg16.toInt ≠ (37 : Int32).toInt := kd_ne c; clear c
              refine ft_go mi_k153 4 57 [(1, .int (-1)), (0, .ref 116)] [] i5 a5 q5 r5 (by rfl) ?_
              have hG21 := kG_call hGg2 hL5 (by decide +kernel)
              refine ft_go mi_k153 1 58 [(1, .int (-1)), (0, .ref 116)] [.int 1] i5 a5 q5 r5 (by rfl) ?_
              exact ft_ret mi_k153 (by rfl) (hP 1 _ _ _ _ hG21 ⟨(oq290 p5_0 p5_2 p5_3 p5_4 p5_5 koq1), (rGo_out O5_0 (opMul_of (x := (cHr t nn (i5 7437) 0)) (g := (-1)) (Or.inr (Or.inr (Or.inr (⟨(oq248 c10 hv9 koq42), (oq249 c15 hv14 koq47), (oq250 c20 hv19 koq37), (oq251 koqm1)⟩))))) (oq252 koqm1) rfl)⟩)
            ·
              have c22 : vg16.toInt = (37 : Int32).toInt := kd_neF c; clear c
              have s23 : ((i5 7437) + 1).toInt = (i5 7437).toInt + (1 : Int32).toInt := kd_add (oq115 fi5_7437.1 koq1) (oq116 fi5_7437.2 koq1)
              have hJ24 := kG_i hL5 7437 rfl (v := ((i5 7437) + 1)) ⟨(oq117 fi5_7437.1 s23 koq1), (oq253 c22 fi5_7429.2 hv19 hv9 s23 z7.2.2 koq37 koq1)⟩
              refine ft_go mi_k153 12 70 [(1, .int 15), (0, .ref 116)] [.ref 116] (ku i5 7437 ((i5 7437) + 1)) a5 q5 r5 (by rfl) ?_
              refine ko_callI mi_k153.1 (pc := 70) (ls := [(1, .int 15), (0, .ref 116)]) (st := [.ref 116]) (h := ks (ku i5 7437 ((i5 7437) + 1)) a5 q5 r5) (i := (.invokevirtual 190, 3, 152, 0, 9, 0, 402)) (mi_k153.2 _ _ (by rfl)) (ft_invS mi_pq152 (by rfl)) (cy := mi_c152) mi_pq152 rfl (h152 _ _ _ _ hJ24.I hJ24.R (oq291 hp0 p5_0) (oq255 hp1 p5_3 s23 koq1) (oq256 c22 hv19 hv9 s23 z7.2.2 koq37 koq1) t nn (((hL5.fa 119 rfl).trans (kg2.fa 119 rfl)).trans hT) (((hL5.fi 7429 rfl).trans (kg2.fi 7429 rfl)).trans hN) hX) (kj_d1 (n := n) (o := 10) (o1 := 11) (by decide)) ?_
              intro vg25 ig25 ag25 qg25 rg25 kg25 hg25
              have hGg25 := kG_call hJ24 kg25 (by decide +kernel)
              obtain ⟨hg25, og25⟩ := hg25
              have fig25_7437 : ((0 : Int) ≤ (ig25 7437).toInt) ∧ ((ig25 7437).toInt ≤ 120) := hGg25.I.1 7437
              have efig25_7429 : (ig25 7429).toInt = (i5 7429).toInt := kg25.ti 7429 rfl
              have fig25_7439 : ((0 : Int) ≤ (ig25 7439).toInt) ∧ ((ig25 7439).toInt ≤ 200) := hGg25.I.1 7439
              have z26 : ((ig25 7438).toInt = (i5 7438).toInt) ∧ (((i5 7437) + 1).toInt ≤ (ig25 7437).toInt) ∧ ((ig25 7437).toInt ≤ (ig25 7429).toInt) ∧ (((ig25 7439).toInt - (ig25 7437).toInt) ≤ ((i5 7439).toInt - ((i5 7437) + 1).toInt)) ∧ ((i5 7439).toInt ≤ (ig25 7439).toInt) ∧ ((0 : Int) ≤ vg25.toInt) ∧ (vg25.toInt ≤ 1) ∧ (((vg25.toInt = 1) → ((((i5 7437) + 1).toInt + 1) ≤ (ig25 7437).toInt))) := hg25
              refine ft_if mi_k153 (vg25 != 0) 78 76 [(1, .int 15), (0, .ref 116)] [] (by rfl) (fun c => ?_) (fun c => ?_)
              ·
                have c27 : vg25.toInt ≠ (0 : Int32).toInt := kd_ne c; clear c
                refine ft_go mi_k153 2 80 [(1, .int 15), (0, .ref 116)] [.int 15, .ref 116] ig25 ag25 qg25 rg25 (by rfl) ?_
                refine ko_callI mi_k153.1 (pc := 80) (ls := [(1, .int 15), (0, .ref 116)]) (st := [.int 15, .ref 116]) (h := ks ig25 ag25 qg25 rg25) (i := (.invokevirtual 177, 3, 149, 0, 9, 0, 405)) (mi_k153.2 _ _ (by rfl)) (ft_invS mi_pq149 (by rfl)) (cy := mi_c149) mi_pq149 rfl (kf149_116 hGg25.I hGg25.R 15 (oq257 fig25_7437.2 fig25_7439.1 hp1 p5_3 s23 z26.2.2.2.1 koq1)) (kj_d3 (n := n) (c := 1) (o1 := 11) (by decide)) ?_
                intro vg28 ig28 ag28 qg28 rg28 kg28 hg28
                have hGg28 := kG_call hGg25 kg28 (by decide +kernel)
                obtain ⟨hg28, og28⟩ := hg28
                have z29 : (vg28.toInt = 1) ∧ ((ig28 7439).toInt = ((ig25 7439).toInt + 1)) := hg28
                have q30 : ag28 127 = (ag25 127).set (ig25 7439).toNatClampNeg (15 : Int32) := og28.1
                have q31 : ig28 7439 = ig25 7439 + 1 := og28.2
                refine ft_go mi_k153 2 9 [(1, .int 15), (0, .ref 116)] [] ig28 ag28 qg28 rg28 (by rfl) ?_
                refine ko_perm [(0, .ref 116)] (List.forall_mem_cons.mpr ⟨(List.Mem.tail _ (List.Mem.head _)), (fun _ h => absurd h List.not_mem_nil)⟩) ?_
                have efig28_7438 : (ig28 7438).toInt = (ig25 7438).toInt := kg28.ti 7438 rfl
                have efig28_7437 : (ig28 7437).toInt = (ig25 7437).toInt := kg28.ti 7437 rfl
                have efig28_7429 : (ig28 7429).toInt = (ig25 7429).toInt := kg28.ti 7429 rfl
                exact ih5 _ _ _ _ hGg28 (oq292 efig28_7438 p5_0 z26.1) (oq259 efig28_7437 p5_5 s23 z26.2.1 koq1) (oq260 efig28_7429 efig28_7437 z26.2.2.1) (oq293 efig28_7437 p5_3 s23 z26.2.2.2.1 z29.2 koq1) (oq294 p5_4 z26.2.2.2.2.1 z29.2) (oq263 efig28_7437 p5_5 s23 z26.2.1 koq1) (rGo_again O5_0 (opMul_of (x := (cHr t nn (i5 7437) 0)) (g := 15) (Or.inr (Or.inr (Or.inl ⟨(oq264 c22 hv19 koq37), (oq265 koq15)⟩)))) (oq266 koq15) (oq267 efi5_7429 efig25_7429 efig2_7429 hn1 s23 z26.2.1 z26.2.2.1 koq1) og25 (oq151 c27 z26.2.2.2.2.2.1 koq0) (tCod og28.1 og28.2 (kg28.fi 7437 rfl)) (oq268 efig28_7437 s23 z26.2.1 koq1)) (kj_meas (oq269 efig25_7429 efig28_7429 efig28_7437 s23 z26.2.1 koq1) (oq270 efig25_7429 s23 z26.2.1 z26.2.2.1 koq1) hm5)
              ·
                have c32 : vg25.toInt = (0 : Int32).toInt := kd_neF c; clear c
                have hG33 := kG_call hGg2 hGg25 (by decide +kernel)
                refine ft_go mi_k153 1 77 [(1, .int 15), (0, .ref 116)] [.int 0] ig25 ag25 qg25 rg25 (by rfl) ?_
                exact ft_ret mi_k153 (by rfl) (hP 0 _ _ _ _ hG33 ⟨(oq295 p5_0 p5_3 p5_4 p5_5 s23 z26.1 z26.2.1 z26.2.2.1 z26.2.2.2.1 z26.2.2.2.2.1 koq1 koq0), (rGo_no O5_0 (opMul_of (x := (cHr t nn (i5 7437) 0)) (g := 15) (Or.inr (Or.inr (Or.inl ⟨(oq264 c22 hv19 koq37), (oq265 koq15)⟩)))) (oq266 koq15) (oq267 efi5_7429 efig25_7429 efig2_7429 hn1 s23 z26.2.1 z26.2.2.1 koq1) og25 (oq143 c32 z26.2.2.2.2.2.1 koq0) rfl)⟩)
          ·
            have c34 : vg11.toInt = (47 : Int32).toInt := kd_neF c; clear c
            have s35 : ((i5 7437) + 1).toInt = (i5 7437).toInt + (1 : Int32).toInt := kd_add (oq115 fi5_7437.1 koq1) (oq116 fi5_7437.2 koq1)
            have hJ36 := kG_i hL5 7437 rfl (v := ((i5 7437) + 1)) ⟨(oq117 fi5_7437.1 s35 koq1), (oq272 c34 fi5_7429.2 hv14 hv9 s35 z7.2.2 koq47 koq1)⟩
            refine ft_go mi_k153 12 70 [(1, .int 14), (0, .ref 116)] [.ref 116] (ku i5 7437 ((i5 7437) + 1)) a5 q5 r5 (by rfl) ?_
            refine ko_callI mi_k153.1 (pc := 70) (ls := [(1, .int 14), (0, .ref 116)]) (st := [.ref 116]) (h := ks (ku i5 7437 ((i5 7437) + 1)) a5 q5 r5) (i := (.invokevirtual 190, 3, 152, 0, 9, 0, 402)) (mi_k153.2 _ _ (by rfl)) (ft_invS mi_pq152 (by rfl)) (cy := mi_c152) mi_pq152 rfl (h152 _ _ _ _ hJ36.I hJ36.R (oq291 hp0 p5_0) (oq255 hp1 p5_3 s35 koq1) (oq273 c34 hv14 hv9 s35 z7.2.2 koq47 koq1) t nn (((hL5.fa 119 rfl).trans (kg2.fa 119 rfl)).trans hT) (((hL5.fi 7429 rfl).trans (kg2.fi 7429 rfl)).trans hN) hX) (kj_d1 (n := n) (o := 10) (o1 := 11) (by decide)) ?_
            intro vg37 ig37 ag37 qg37 rg37 kg37 hg37
            have hGg37 := kG_call hJ36 kg37 (by decide +kernel)
            obtain ⟨hg37, og37⟩ := hg37
            have fig37_7437 : ((0 : Int) ≤ (ig37 7437).toInt) ∧ ((ig37 7437).toInt ≤ 120) := hGg37.I.1 7437
            have efig37_7429 : (ig37 7429).toInt = (i5 7429).toInt := kg37.ti 7429 rfl
            have fig37_7439 : ((0 : Int) ≤ (ig37 7439).toInt) ∧ ((ig37 7439).toInt ≤ 200) := hGg37.I.1 7439
            have z38 : ((ig37 7438).toInt = (i5 7438).toInt) ∧ (((i5 7437) + 1).toInt ≤ (ig37 7437).toInt) ∧ ((ig37 7437).toInt ≤ (ig37 7429).toInt) ∧ (((ig37 7439).toInt - (ig37 7437).toInt) ≤ ((i5 7439).toInt - ((i5 7437) + 1).toInt)) ∧ ((i5 7439).toInt ≤ (ig37 7439).toInt) ∧ ((0 : Int) ≤ vg37.toInt) ∧ (vg37.toInt ≤ 1) ∧ (((vg37.toInt = 1) → ((((i5 7437) + 1).toInt + 1) ≤ (ig37 7437).toInt))) := hg37
            refine ft_if mi_k153 (vg37 != 0) 78 76 [(1, .int 14), (0, .ref 116)] [] (by rfl) (fun c => ?_) (fun c => ?_)
            ·
              have c39 : vg37.toInt ≠ (0 : Int32).toInt := kd_ne c; clear c
              refine ft_go mi_k153 2 80 [(1, .int 14), (0, .ref 116)] [.int 14, .ref 116] ig37 ag37 qg37 rg37 (by rfl) ?_
              refine ko_callI mi_k153.1 (pc := 80) (ls := [(1, .int 14), (0, .ref 116)]) (st := [.int 14, .ref 116]) (h := ks ig37 ag37 qg37 rg37) (i := (.invokevirtual 177, 3, 149, 0, 9, 0, 405)) (mi_k153.2 _ _ (by rfl)) (ft_invS mi_pq149 (by rfl)) (cy := mi_c149) mi_pq149 rfl (kf149_116 hGg37.I hGg37.R 14 (oq257 fig37_7437.2 fig37_7439.1 hp1 p5_3 s35 z38.2.2.2.1 koq1)) (kj_d3 (n := n) (c := 1) (o1 := 11) (by decide)) ?_
              intro vg40 ig40 ag40 qg40 rg40 kg40 hg40
              have hGg40 := kG_call hGg37 kg40 (by decide +kernel)
              obtain ⟨hg40, og40⟩ := hg40
              have z41 : (vg40.toInt = 1) ∧ ((ig40 7439).toInt = ((ig37 7439).toInt + 1)) := hg40
              have q42 : ag40 127 = (ag37 127).set (ig37 7439).toNatClampNeg (14 : Int32) := og40.1
              have q43 : ig40 7439 = ig37 7439 + 1 := og40.2
              refine ft_go mi_k153 2 9 [(1, .int 14), (0, .ref 116)] [] ig40 ag40 qg40 rg40 (by rfl) ?_
              refine ko_perm [(0, .ref 116)] (List.forall_mem_cons.mpr ⟨(List.Mem.tail _ (List.Mem.head _)), (fun _ h => absurd h List.not_mem_nil)⟩) ?_
              have efig40_7438 : (ig40 7438).toInt = (ig37 7438).toInt := kg40.ti 7438 rfl
              have efig40_7437 : (ig40 7437).toInt = (ig37 7437).toInt := kg40.ti 7437 rfl
              have efig40_7429 : (ig40 7429).toInt = (ig37 7429).toInt := kg40.ti 7429 rfl
              exact ih5 _ _ _ _ hGg40 (oq292 efig40_7438 p5_0 z38.1) (oq259 efig40_7437 p5_5 s35 z38.2.1 koq1) (oq260 efig40_7429 efig40_7437 z38.2.2.1) (oq293 efig40_7437 p5_3 s35 z38.2.2.2.1 z41.2 koq1) (oq294 p5_4 z38.2.2.2.2.1 z41.2) (oq263 efig40_7437 p5_5 s35 z38.2.1 koq1) (rGo_again O5_0 (opMul_of (x := (cHr t nn (i5 7437) 0)) (g := 14) (Or.inr (Or.inl ⟨(oq277 c34 hv14 koq47), (oq278 koq14)⟩))) (oq279 koq14) (oq280 efi5_7429 efig2_7429 efig37_7429 hn1 s35 z38.2.1 z38.2.2.1 koq1) og37 (oq151 c39 z38.2.2.2.2.2.1 koq0) (tCod og40.1 og40.2 (kg40.fi 7437 rfl)) (oq268 efig40_7437 s35 z38.2.1 koq1)) (kj_meas (oq269 efig37_7429 efig40_7429 efig40_7437 s35 z38.2.1 koq1) (oq270 efig37_7429 s35 z38.2.1 z38.2.2.1 koq1) hm5)
            ·
              have c44 : vg37.toInt = (0 : Int32).toInt := kd_neF c; clear c
              have hG45 := kG_call hGg2 hGg37 (by decide +kernel)
              refine ft_go mi_k153 1 77 [(1, .int 14), (0, .ref 116)] [.int 0] ig37 ag37 qg37 rg37 (by rfl) ?_
              exact ft_ret mi_k153 (by rfl) (hP 0 _ _ _ _ hG45 ⟨(oq295 p5_0 p5_3 p5_4 p5_5 s35 z38.1 z38.2.1 z38.2.2.1 z38.2.2.2.1 z38.2.2.2.2.1 koq1 koq0), (rGo_no O5_0 (opMul_of (x := (cHr t nn (i5 7437) 0)) (g := 14) (Or.inr (Or.inl ⟨(oq277 c34 hv14 koq47), (oq278 koq14)⟩))) (oq279 koq14) (oq280 efi5_7429 efig2_7429 efig37_7429 hn1 s35 z38.2.1 z38.2.2.1 koq1) og37 (oq143 c44 z38.2.2.2.2.2.1 koq0) rfl)⟩)
        ·
          have c46 : vg6.toInt = (42 : Int32).toInt := kd_neF c; clear c
          have s47 : ((i5 7437) + 1).toInt = (i5 7437).toInt + (1 : Int32).toInt := kd_add (oq115 fi5_7437.1 koq1) (oq116 fi5_7437.2 koq1)
          have hJ48 := kG_i hL5 7437 rfl (v := ((i5 7437) + 1)) ⟨(oq117 fi5_7437.1 s47 koq1), (oq282 c46 fi5_7429.2 s47 z7.2.2 koq42 koq1)⟩
          refine ft_go mi_k153 12 70 [(1, .int 13), (0, .ref 116)] [.ref 116] (ku i5 7437 ((i5 7437) + 1)) a5 q5 r5 (by rfl) ?_
          refine ko_callI mi_k153.1 (pc := 70) (ls := [(1, .int 13), (0, .ref 116)]) (st := [.ref 116]) (h := ks (ku i5 7437 ((i5 7437) + 1)) a5 q5 r5) (i := (.invokevirtual 190, 3, 152, 0, 9, 0, 402)) (mi_k153.2 _ _ (by rfl)) (ft_invS mi_pq152 (by rfl)) (cy := mi_c152) mi_pq152 rfl (h152 _ _ _ _ hJ48.I hJ48.R (oq291 hp0 p5_0) (oq255 hp1 p5_3 s47 koq1) (oq283 c46 s47 z7.2.2 koq42 koq1) t nn (((hL5.fa 119 rfl).trans (kg2.fa 119 rfl)).trans hT) (((hL5.fi 7429 rfl).trans (kg2.fi 7429 rfl)).trans hN) hX) (kj_d1 (n := n) (o := 10) (o1 := 11) (by decide)) ?_
          intro vg49 ig49 ag49 qg49 rg49 kg49 hg49
          have hGg49 := kG_call hJ48 kg49 (by decide +kernel)
          obtain ⟨hg49, og49⟩ := hg49
          have fig49_7437 : ((0 : Int) ≤ (ig49 7437).toInt) ∧ ((ig49 7437).toInt ≤ 120) := hGg49.I.1 7437
          have efig49_7429 : (ig49 7429).toInt = (i5 7429).toInt := kg49.ti 7429 rfl
          have fig49_7439 : ((0 : Int) ≤ (ig49 7439).toInt) ∧ ((ig49 7439).toInt ≤ 200) := hGg49.I.1 7439
          have z50 : ((ig49 7438).toInt = (i5 7438).toInt) ∧ (((i5 7437) + 1).toInt ≤ (ig49 7437).toInt) ∧ ((ig49 7437).toInt ≤ (ig49 7429).toInt) ∧ (((ig49 7439).toInt - (ig49 7437).toInt) ≤ ((i5 7439).toInt - ((i5 7437) + 1).toInt)) ∧ ((i5 7439).toInt ≤ (ig49 7439).toInt) ∧ ((0 : Int) ≤ vg49.toInt) ∧ (vg49.toInt ≤ 1) ∧ (((vg49.toInt = 1) → ((((i5 7437) + 1).toInt + 1) ≤ (ig49 7437).toInt))) := hg49
          refine ft_if mi_k153 (vg49 != 0) 78 76 [(1, .int 13), (0, .ref 116)] [] (by rfl) (fun c => ?_) (fun c => ?_)
          ·
            have c51 : vg49.toInt ≠ (0 : Int32).toInt := kd_ne c; clear c
            refine ft_go mi_k153 2 80 [(1, .int 13), (0, .ref 116)] [.int 13, .ref 116] ig49 ag49 qg49 rg49 (by rfl) ?_
            refine ko_callI mi_k153.1 (pc := 80) (ls := [(1, .int 13), (0, .ref 116)]) (st := [.int 13, .ref 116]) (h := ks ig49 ag49 qg49 rg49) (i := (.invokevirtual 177, 3, 149, 0, 9, 0, 405)) (mi_k153.2 _ _ (by rfl)) (ft_invS mi_pq149 (by rfl)) (cy := mi_c149) mi_pq149 rfl (kf149_116 hGg49.I hGg49.R 13 (oq257 fig49_7437.2 fig49_7439.1 hp1 p5_3 s47 z50.2.2.2.1 koq1)) (kj_d3 (n := n) (c := 1) (o1 := 11) (by decide)) ?_
            intro vg52 ig52 ag52 qg52 rg52 kg52 hg52
            have hGg52 := kG_call hGg49 kg52 (by decide +kernel)
            obtain ⟨hg52, og52⟩ := hg52
            have z53 : (vg52.toInt = 1) ∧ ((ig52 7439).toInt = ((ig49 7439).toInt + 1)) := hg52
            have q54 : ag52 127 = (ag49 127).set (ig49 7439).toNatClampNeg (13 : Int32) := og52.1
            have q55 : ig52 7439 = ig49 7439 + 1 := og52.2
            refine ft_go mi_k153 2 9 [(1, .int 13), (0, .ref 116)] [] ig52 ag52 qg52 rg52 (by rfl) ?_
            refine ko_perm [(0, .ref 116)] (List.forall_mem_cons.mpr ⟨(List.Mem.tail _ (List.Mem.head _)), (fun _ h => absurd h List.not_mem_nil)⟩) ?_
            have efig52_7438 : (ig52 7438).toInt = (ig49 7438).toInt := kg52.ti 7438 rfl
            have efig52_7437 : (ig52 7437).toInt = (ig49 7437).toInt := kg52.ti 7437 rfl
            have efig52_7429 : (ig52 7429).toInt = (ig49 7429).toInt := kg52.ti 7429 rfl
            exact ih5 _ _ _ _ hGg52 (oq292 efig52_7438 p5_0 z50.1) (oq259 efig52_7437 p5_5 s47 z50.2.1 koq1) (oq260 efig52_7429 efig52_7437 z50.2.2.1) (oq293 efig52_7437 p5_3 s47 z50.2.2.2.1 z53.2 koq1) (oq294 p5_4 z50.2.2.2.2.1 z53.2) (oq263 efig52_7437 p5_5 s47 z50.2.1 koq1) (rGo_again O5_0 (opMul_of (x := (cHr t nn (i5 7437) 0)) (g := 13) (Or.inl ⟨(oq284 c46 hv9 koq42), (oq285 koq13)⟩)) (oq286 koq13) (oq280 efi5_7429 efig2_7429 efig49_7429 hn1 s47 z50.2.1 z50.2.2.1 koq1) og49 (oq151 c51 z50.2.2.2.2.2.1 koq0) (tCod og52.1 og52.2 (kg52.fi 7437 rfl)) (oq268 efig52_7437 s47 z50.2.1 koq1)) (kj_meas (oq269 efig49_7429 efig52_7429 efig52_7437 s47 z50.2.1 koq1) (oq270 efig49_7429 s47 z50.2.1 z50.2.2.1 koq1) hm5)
          ·
            have c56 : vg49.toInt = (0 : Int32).toInt := kd_neF c; clear c
            have hG57 := kG_call hGg2 hGg49 (by decide +kernel)
            refine ft_go mi_k153 1 77 [(1, .int 13), (0, .ref 116)] [.int 0] ig49 ag49 qg49 rg49 (by rfl) ?_
            exact ft_ret mi_k153 (by rfl) (hP 0 _ _ _ _ hG57 ⟨(oq295 p5_0 p5_3 p5_4 p5_5 s47 z50.1 z50.2.1 z50.2.2.1 z50.2.2.2.1 z50.2.2.2.2.1 koq1 koq0), (rGo_no O5_0 (opMul_of (x := (cHr t nn (i5 7437) 0)) (g := 13) (Or.inl ⟨(oq284 c46 hv9 koq42), (oq285 koq13)⟩)) (oq286 koq13) (oq280 efi5_7429 efig2_7429 efig49_7429 hn1 s47 z50.2.1 z50.2.2.1 koq1) og49 (oq143 c56 z50.2.2.2.2.2.1 koq0) rfl)⟩)
    exact lp5 _ _ _ _ _ (kG_self _ hGg2.I hGg2.R) (oq208 z3.1) (oq222 z3.2.1) (oq222 z3.2.2.1) (oq287 z3.2.2.2.1) (oq222 z3.2.2.2.2.1) (oq288 c4 z3.2.2.2.2.2.1 z3.2.2.2.2.2.2.1 z3.2.2.2.2.2.2.2 koq0) (rGo_begin og2 (oq151 c4 z3.2.2.2.2.2.1 koq0) (oq2 fig2_7437.1)) (Nat.lt_succ_self _)
  ·
    have c58 : vg2.toInt = (0 : Int32).toInt := kd_neF c; clear c
    refine ft_go mi_k153 1 8 [(0, .ref 116)] [.int 0] ig2 ag2 qg2 rg2 (by rfl) ?_
    exact ft_ret mi_k153 (by rfl) (hP 0 _ _ _ _ hGg2 ⟨(oq289 z3.1 z3.2.1 z3.2.2.1 z3.2.2.2.1 z3.2.2.2.2.1 koq0), (rMu_no og2 (oq143 c58 z3.2.2.2.2.2.1 koq0) rfl)⟩)
set_option maxRecDepth 100000 in
theorem kMsQ_154 (n : Nat) (h152 : kMQ_152 n) (h153 : kMQ_153 n) : kMQ_154 n := by
  intro i a q r hI hr hp0 hp1 hp2 t nn hT hN hX
  have hG := kG_self wQ hI hr
  refine km_ofI (q := (mi_h154, mi_c154)) rfl (by decide) (Nat.le_of_ble_eq_true rfl) ?_
  intro P hP
  have hn0 : (0 : Int) ≤ (n : Int) := Int.natCast_nonneg n
  have hn1 : (i 7429).toInt = nn.toInt := congrArg Int32.toInt hN
  refine ft_go mi_k154 1 1 [(0, .ref 116)] [.ref 116] i a q r (by rfl) ?_
  refine ko_callI mi_k154.1 (pc := 1) (ls := [(0, .ref 116)]) (st := [.ref 116]) (h := ks i a q r) (i := (.invokevirtual 196, 3, 153, 0, 9, 0, 401)) (mi_k154.2 _ _ (by rfl)) (ft_invS mi_pq153 (by rfl)) (cy := mi_c153) mi_pq153 rfl (h153 _ _ _ _ hG.I hG.R (oq246 hp0) (oq222 hp1) (oq222 hp2) t nn hT hN hX) (kj_d1 (n := n) (o := 11) (o1 := 12) (by decide)) ?_
  intro vg2 ig2 ag2 qg2 rg2 kg2 hg2
  have hGg2 := kG_call hG kg2 (by decide +kernel)
  obtain ⟨hg2, og2⟩ := hg2
  have fig2_7437 : ((0 : Int) ≤ (ig2 7437).toInt) ∧ ((ig2 7437).toInt ≤ 120) := hGg2.I.1 7437
  have efig2_7429 : (ig2 7429).toInt = (i 7429).toInt := kg2.ti 7429 rfl
  have z3 : ((ig2 7438).toInt = (i 7438).toInt) ∧ ((i 7437).toInt ≤ (ig2 7437).toInt) ∧ ((ig2 7437).toInt ≤ (ig2 7429).toInt) ∧ (((ig2 7439).toInt - (ig2 7437).toInt) ≤ ((i 7439).toInt - (i 7437).toInt)) ∧ ((i 7439).toInt ≤ (ig2 7439).toInt) ∧ ((0 : Int) ≤ vg2.toInt) ∧ (vg2.toInt ≤ 1) ∧ (((vg2.toInt = 1) → (((i 7437).toInt + 1) ≤ (ig2 7437).toInt))) := hg2
  refine ft_if mi_k154 (vg2 != 0) 9 7 [(0, .ref 116)] [] (by rfl) (fun c => ?_) (fun c => ?_)
  ·
    have c4 : vg2.toInt ≠ (0 : Int32).toInt := kd_ne c; clear c
    have lp5 : ∀ (nz : Nat) (i5 : Nat → Int32) (a5 : Nat → List Int32) (q5 : Nat → List Int64) (r5 : Nat → Nat), kG yw154_116_L9 ig2 ag2 qg2 rg2 i5 a5 q5 r5 → (i5 7438).toInt = (i 7438).toInt → (i 7437).toInt ≤ (i5 7437).toInt → (i5 7437).toInt ≤ (i5 7429).toInt → ((i5 7439).toInt - (i5 7437).toInt) ≤ ((i 7439).toInt - (i 7437).toInt) → (i 7439).toInt ≤ (i5 7439).toInt → ((i 7437).toInt + 1) ≤ (i5 7437).toInt → rGo t nn (rP3 t nn (rO t nn n)) opSum (i5 7437, i5 7439, a5 127) (rMul t nn (rP3 t nn (rO t nn n)) opSum (i 7437, i 7439, a 127)) → (((i5 7429).toInt - (i5 7437).toInt)).toNat < nz → ko (6 * n + 12) (mi_h154, mi_c154) P (9, [(0, .ref 116)], [], (0, 0), ks i5 a5 q5 r5) := by
      intro nz
      induction nz with
      | zero =>
        intro _ _ _ _ _ _ _ _ _ _ _ _ hm
        exact absurd hm (Nat.not_lt_zero _)
      | succ nz ih5 =>
        intro i5 a5 q5 r5 hL5 p5_0 p5_1 p5_2 p5_3 p5_4 p5_5 O5_0 hm5
        have fi5_7437 : ((0 : Int) ≤ (i5 7437).toInt) ∧ ((i5 7437).toInt ≤ 120) := hL5.I.1 7437
        have fi5_7429 : ((0 : Int) ≤ (i5 7429).toInt) ∧ ((i5 7429).toInt ≤ 120) := hL5.I.1 7429
        have efi5_7429 : (i5 7429).toInt = (ig2 7429).toInt := hL5.ti 7429 rfl
        refine ft_go mi_k154 1 10 [(0, .ref 116)] [.ref 116] i5 a5 q5 r5 (by rfl) ?_
        refine ko_callPI mi_k154.1 (pc := 10) (ls := [(0, .ref 116)]) (st := [.ref 116]) (h := ks i5 a5 q5 r5) (i := (.invokevirtual 166, 3, 147, 0, 9, 0, 404)) (mi_k154.2 _ _ (by rfl)) (ft_invS mi_pq147 (by rfl)) (cy := mi_c147) mi_pq147 rfl (ke147_116 hL5.I hL5.R t nn (((hL5.fa 119 rfl).trans (kg2.fa 119 rfl)).trans hT) (((hL5.fi 7429 rfl).trans (kg2.fi 7429 rfl)).trans hN) hX) (kj_d3 (n := n) (c := 1) (o1 := 12) (by decide)) ?_
        intro vg6 hg6
        obtain ⟨hg6, og6⟩ := hg6
        have z7 : (((-1) : Int) ≤ vg6.toInt) ∧ (vg6.toInt ≤ 255) ∧ ((vg6.toInt = (-1)) ∨ ((i5 7437).toInt < (i5 7429).toInt)) := hg6
        have q8 : vg6 = cHr t nn (i5 7437) 0 := og6
        have hv9 : vg6.toInt = (cHr t nn (i5 7437) 0).toInt := congrArg Int32.toInt og6
        refine ft_go mi_k154 1 15 [(0, .ref 116)] [.int 43, .int vg6] i5 a5 q5 r5 (by rfl) ?_
        refine ft_if mi_k154 (vg6 != 43) 23 18 [(0, .ref 116)] [] (by rfl) (fun c => ?_) (fun c => ?_)
        ·
          have c10 : vg6.toInt ≠ (43 : Int32).toInt := kd_ne c; clear c
          refine ft_go mi_k154 1 24 [(0, .ref 116)] [.ref 116] i5 a5 q5 r5 (by rfl) ?_
          refine ko_callPI mi_k154.1 (pc := 24) (ls := [(0, .ref 116)]) (st := [.ref 116]) (h := ks i5 a5 q5 r5) (i := (.invokevirtual 166, 3, 147, 0, 9, 0, 404)) (mi_k154.2 _ _ (by rfl)) (ft_invS mi_pq147 (by rfl)) (cy := mi_c147) mi_pq147 rfl (ke147_116 hL5.I hL5.R t nn (((hL5.fa 119 rfl).trans (kg2.fa 119 rfl)).trans hT) (((hL5.fi 7429 rfl).trans (kg2.fi 7429 rfl)).trans hN) hX) (kj_d3 (n := n) (c := 1) (o1 := 12) (by decide)) ?_
          intro vg11 hg11
          obtain ⟨hg11, og11⟩ := hg11
          have q13 : vg11 = cHr t nn (i5 7437) 0 := og11
          have hv14 : vg11.toInt = (cHr t nn (i5 7437) 0).toInt := congrArg Int32.toInt og11
          refine ft_go mi_k154 1 29 [(0, .ref 116)] [.int 45, .int vg11] i5 a5 q5 r5 (by rfl) ?_
          refine ft_if mi_k154 (vg11 != 45) 37 32 [(0, .ref 116)] [] (by rfl) (fun c => ?_) (fun c => ?_)
          ·
            have c15 : vg11.toInt ≠ (45 : Int32).toInt := kd_ne c; clear c
            refine ft_go mi_k154 4 43 [(1, .int (-1)), (0, .ref 116)] [] i5 a5 q5 r5 (by rfl) ?_
            have hG16 := kG_call hGg2 hL5 (by decide +kernel)
            refine ft_go mi_k154 1 44 [(1, .int (-1)), (0, .ref 116)] [.int 1] i5 a5 q5 r5 (by rfl) ?_
            exact ft_ret mi_k154 (by rfl) (hP 1 _ _ _ _ hG16 ⟨(oq290 p5_0 p5_2 p5_3 p5_4 p5_5 koq1), (rGo_out O5_0 (opSum_of (x := (cHr t nn (i5 7437) 0)) (g := (-1)) (Or.inr (Or.inr (⟨(oq296 c10 hv9 koq43), (oq297 c15 hv14 koq45), (oq251 koqm1)⟩)))) (oq252 koqm1) rfl)⟩)
          ·
            have c17 : vg11.toInt = (45 : Int32).toInt := kd_neF c; clear c
            have s18 : ((i5 7437) + 1).toInt = (i5 7437).toInt + (1 : Int32).toInt := kd_add (oq115 fi5_7437.1 koq1) (oq116 fi5_7437.2 koq1)
            have hJ19 := kG_i hL5 7437 rfl (v := ((i5 7437) + 1)) ⟨(oq117 fi5_7437.1 s18 koq1), (oq298 c17 fi5_7429.2 hv14 hv9 s18 z7.2.2 koq45 koq1)⟩
            refine ft_go mi_k154 12 56 [(1, .int 12), (0, .ref 116)] [.ref 116] (ku i5 7437 ((i5 7437) + 1)) a5 q5 r5 (by rfl) ?_
            refine ko_callI mi_k154.1 (pc := 56) (ls := [(1, .int 12), (0, .ref 116)]) (st := [.ref 116]) (h := ks (ku i5 7437 ((i5 7437) + 1)) a5 q5 r5) (i := (.invokevirtual 196, 3, 153, 0, 9, 0, 401)) (mi_k154.2 _ _ (by rfl)) (ft_invS mi_pq153 (by rfl)) (cy := mi_c153) mi_pq153 rfl (h153 _ _ _ _ hJ19.I hJ19.R (oq291 hp0 p5_0) (oq255 hp1 p5_3 s18 koq1) (oq299 c17 hv14 hv9 s18 z7.2.2 koq45 koq1) t nn (((hL5.fa 119 rfl).trans (kg2.fa 119 rfl)).trans hT) (((hL5.fi 7429 rfl).trans (kg2.fi 7429 rfl)).trans hN) hX) (kj_d1 (n := n) (o := 11) (o1 := 12) (by decide)) ?_
            intro vg20 ig20 ag20 qg20 rg20 kg20 hg20
            have hGg20 := kG_call hJ19 kg20 (by decide +kernel)
            obtain ⟨hg20, og20⟩ := hg20
            have fig20_7437 : ((0 : Int) ≤ (ig20 7437).toInt) ∧ ((ig20 7437).toInt ≤ 120) := hGg20.I.1 7437
            have efig20_7429 : (ig20 7429).toInt = (i5 7429).toInt := kg20.ti 7429 rfl
            have fig20_7439 : ((0 : Int) ≤ (ig20 7439).toInt) ∧ ((ig20 7439).toInt ≤ 200) := hGg20.I.1 7439
            have z21 : ((ig20 7438).toInt = (i5 7438).toInt) ∧ (((i5 7437) + 1).toInt ≤ (ig20 7437).toInt) ∧ ((ig20 7437).toInt ≤ (ig20 7429).toInt) ∧ (((ig20 7439).toInt - (ig20 7437).toInt) ≤ ((i5 7439).toInt - ((i5 7437) + 1).toInt)) ∧ ((i5 7439).toInt ≤ (ig20 7439).toInt) ∧ ((0 : Int) ≤ vg20.toInt) ∧ (vg20.toInt ≤ 1) ∧ (((vg20.toInt = 1) → ((((i5 7437) + 1).toInt + 1) ≤ (ig20 7437).toInt))) := hg20
            refine ft_if mi_k154 (vg20 != 0) 64 62 [(1, .int 12), (0, .ref 116)] [] (by rfl) (fun c => ?_) (fun c => ?_)
            ·
              have c22 : vg20.toInt ≠ (0 : Int32).toInt := kd_ne c; clear c
              refine ft_go mi_k154 2 66 [(1, .int 12), (0, .ref 116)] [.int 12, .ref 116] ig20 ag20 qg20 rg20 (by rfl) ?_
              refine ko_callI mi_k154.1 (pc := 66) (ls := [(1, .int 12), (0, .ref 116)]) (st := [.int 12, .ref 116]) (h := ks ig20 ag20 qg20 rg20) (i := (.invokevirtual 177, 3, 149, 0, 9, 0, 405)) (mi_k154.2 _ _ (by rfl)) (ft_invS mi_pq149 (by rfl)) (cy := mi_c149) mi_pq149 rfl (kf149_116 hGg20.I hGg20.R 12 (oq257 fig20_7437.2 fig20_7439.1 hp1 p5_3 s18 z21.2.2.2.1 koq1)) (kj_d3 (n := n) (c := 1) (o1 := 12) (by decide)) ?_
              intro vg23 ig23 ag23 qg23 rg23 kg23 hg23
              have hGg23 := kG_call hGg20 kg23 (by decide +kernel)
              obtain ⟨hg23, og23⟩ := hg23
              have z24 : (vg23.toInt = 1) ∧ ((ig23 7439).toInt = ((ig20 7439).toInt + 1)) := hg23
              have q25 : ag23 127 = (ag20 127).set (ig20 7439).toNatClampNeg (12 : Int32) := og23.1
              have q26 : ig23 7439 = ig20 7439 + 1 := og23.2
              refine ft_go mi_k154 2 9 [(1, .int 12), (0, .ref 116)] [] ig23 ag23 qg23 rg23 (by rfl) ?_
              refine ko_perm [(0, .ref 116)] (List.forall_mem_cons.mpr ⟨(List.Mem.tail _ (List.Mem.head _)), (fun _ h => absurd h List.not_mem_nil)⟩) ?_
              have efig23_7438 : (ig23 7438).toInt = (ig20 7438).toInt := kg23.ti 7438 rfl
              have efig23_7437 : (ig23 7437).toInt = (ig20 7437).toInt := kg23.ti 7437 rfl
              have efig23_7429 : (ig23 7429).toInt = (ig20 7429).toInt := kg23.ti 7429 rfl
              exact ih5 _ _ _ _ hGg23 (oq292 efig23_7438 p5_0 z21.1) (oq259 efig23_7437 p5_5 s18 z21.2.1 koq1) (oq260 efig23_7429 efig23_7437 z21.2.2.1) (oq293 efig23_7437 p5_3 s18 z21.2.2.2.1 z24.2 koq1) (oq294 p5_4 z21.2.2.2.2.1 z24.2) (oq263 efig23_7437 p5_5 s18 z21.2.1 koq1) (rGo_again O5_0 (opSum_of (x := (cHr t nn (i5 7437) 0)) (g := 12) (Or.inr (Or.inl ⟨(oq300 c17 hv14 koq45), (oq301 koq12)⟩))) (oq302 koq12) (oq267 efi5_7429 efig20_7429 efig2_7429 hn1 s18 z21.2.1 z21.2.2.1 koq1) og20 (oq151 c22 z21.2.2.2.2.2.1 koq0) (tCod og23.1 og23.2 (kg23.fi 7437 rfl)) (oq268 efig23_7437 s18 z21.2.1 koq1)) (kj_meas (oq269 efig20_7429 efig23_7429 efig23_7437 s18 z21.2.1 koq1) (oq270 efig20_7429 s18 z21.2.1 z21.2.2.1 koq1) hm5)
            ·
              have c27 : vg20.toInt = (0 : Int32).toInt := kd_neF c; clear c
              have hG28 := kG_call hGg2 hGg20 (by decide +kernel)
              refine ft_go mi_k154 1 63 [(1, .int 12), (0, .ref 116)] [.int 0] ig20 ag20 qg20 rg20 (by rfl) ?_
              exact ft_ret mi_k154 (by rfl) (hP 0 _ _ _ _ hG28 ⟨(oq295 p5_0 p5_3 p5_4 p5_5 s18 z21.1 z21.2.1 z21.2.2.1 z21.2.2.2.1 z21.2.2.2.2.1 koq1 koq0), (rGo_no O5_0 (opSum_of (x := (cHr t nn (i5 7437) 0)) (g := 12) (Or.inr (Or.inl ⟨(oq300 c17 hv14 koq45), (oq301 koq12)⟩))) (oq302 koq12) (oq267 efi5_7429 efig20_7429 efig2_7429 hn1 s18 z21.2.1 z21.2.2.1 koq1) og20 (oq143 c27 z21.2.2.2.2.2.1 koq0) rfl)⟩)
        ·
          have c29 : vg6.toInt = (43 : Int32).toInt := kd_neF c; clear c
          have s30 : ((i5 7437) + 1).toInt = (i5 7437).toInt + (1 : Int32).toInt := kd_add (oq115 fi5_7437.1 koq1) (oq116 fi5_7437.2 koq1)
          have hJ31 := kG_i hL5 7437 rfl (v := ((i5 7437) + 1)) ⟨(oq117 fi5_7437.1 s30 koq1), (oq303 c29 fi5_7429.2 s30 z7.2.2 koq43 koq1)⟩
          refine ft_go mi_k154 12 56 [(1, .int 11), (0, .ref 116)] [.ref 116] (ku i5 7437 ((i5 7437) + 1)) a5 q5 r5 (by rfl) ?_
          refine ko_callI mi_k154.1 (pc := 56) (ls := [(1, .int 11), (0, .ref 116)]) (st := [.ref 116]) (h := ks (ku i5 7437 ((i5 7437) + 1)) a5 q5 r5) (i := (.invokevirtual 196, 3, 153, 0, 9, 0, 401)) (mi_k154.2 _ _ (by rfl)) (ft_invS mi_pq153 (by rfl)) (cy := mi_c153) mi_pq153 rfl (h153 _ _ _ _ hJ31.I hJ31.R (oq291 hp0 p5_0) (oq255 hp1 p5_3 s30 koq1) (oq304 c29 s30 z7.2.2 koq43 koq1) t nn (((hL5.fa 119 rfl).trans (kg2.fa 119 rfl)).trans hT) (((hL5.fi 7429 rfl).trans (kg2.fi 7429 rfl)).trans hN) hX) (kj_d1 (n := n) (o := 11) (o1 := 12) (by decide)) ?_
          intro vg32 ig32 ag32 qg32 rg32 kg32 hg32
          have hGg32 := kG_call hJ31 kg32 (by decide +kernel)
          obtain ⟨hg32, og32⟩ := hg32
          have fig32_7437 : ((0 : Int) ≤ (ig32 7437).toInt) ∧ ((ig32 7437).toInt ≤ 120) := hGg32.I.1 7437
          have efig32_7429 : (ig32 7429).toInt = (i5 7429).toInt := kg32.ti 7429 rfl
          have fig32_7439 : ((0 : Int) ≤ (ig32 7439).toInt) ∧ ((ig32 7439).toInt ≤ 200) := hGg32.I.1 7439
          have z33 : ((ig32 7438).toInt = (i5 7438).toInt) ∧ (((i5 7437) + 1).toInt ≤ (ig32 7437).toInt) ∧ ((ig32 7437).toInt ≤ (ig32 7429).toInt) ∧ (((ig32 7439).toInt - (ig32 7437).toInt) ≤ ((i5 7439).toInt - ((i5 7437) + 1).toInt)) ∧ ((i5 7439).toInt ≤ (ig32 7439).toInt) ∧ ((0 : Int) ≤ vg32.toInt) ∧ (vg32.toInt ≤ 1) ∧ (((vg32.toInt = 1) → ((((i5 7437) + 1).toInt + 1) ≤ (ig32 7437).toInt))) := hg32
          refine ft_if mi_k154 (vg32 != 0) 64 62 [(1, .int 11), (0, .ref 116)] [] (by rfl) (fun c => ?_) (fun c => ?_)
          ·
            have c34 : vg32.toInt ≠ (0 : Int32).toInt := kd_ne c; clear c
            refine ft_go mi_k154 2 66 [(1, .int 11), (0, .ref 116)] [.int 11, .ref 116] ig32 ag32 qg32 rg32 (by rfl) ?_
            refine ko_callI mi_k154.1 (pc := 66) (ls := [(1, .int 11), (0, .ref 116)]) (st := [.int 11, .ref 116]) (h := ks ig32 ag32 qg32 rg32) (i := (.invokevirtual 177, 3, 149, 0, 9, 0, 405)) (mi_k154.2 _ _ (by rfl)) (ft_invS mi_pq149 (by rfl)) (cy := mi_c149) mi_pq149 rfl (kf149_116 hGg32.I hGg32.R 11 (oq257 fig32_7437.2 fig32_7439.1 hp1 p5_3 s30 z33.2.2.2.1 koq1)) (kj_d3 (n := n) (c := 1) (o1 := 12) (by decide)) ?_
            intro vg35 ig35 ag35 qg35 rg35 kg35 hg35
            have hGg35 := kG_call hGg32 kg35 (by decide +kernel)
            obtain ⟨hg35, og35⟩ := hg35
            have z36 : (vg35.toInt = 1) ∧ ((ig35 7439).toInt = ((ig32 7439).toInt + 1)) := hg35
            have q37 : ag35 127 = (ag32 127).set (ig32 7439).toNatClampNeg (11 : Int32) := og35.1
            have q38 : ig35 7439 = ig32 7439 + 1 := og35.2
            refine ft_go mi_k154 2 9 [(1, .int 11), (0, .ref 116)] [] ig35 ag35 qg35 rg35 (by rfl) ?_
            refine ko_perm [(0, .ref 116)] (List.forall_mem_cons.mpr ⟨(List.Mem.tail _ (List.Mem.head _)), (fun _ h => absurd h List.not_mem_nil)⟩) ?_
            have efig35_7438 : (ig35 7438).toInt = (ig32 7438).toInt := kg35.ti 7438 rfl
            have efig35_7437 : (ig35 7437).toInt = (ig32 7437).toInt := kg35.ti 7437 rfl
            have efig35_7429 : (ig35 7429).toInt = (ig32 7429).toInt := kg35.ti 7429 rfl
            exact ih5 _ _ _ _ hGg35 (oq292 efig35_7438 p5_0 z33.1) (oq259 efig35_7437 p5_5 s30 z33.2.1 koq1) (oq260 efig35_7429 efig35_7437 z33.2.2.1) (oq293 efig35_7437 p5_3 s30 z33.2.2.2.1 z36.2 koq1) (oq294 p5_4 z33.2.2.2.2.1 z36.2) (oq263 efig35_7437 p5_5 s30 z33.2.1 koq1) (rGo_again O5_0 (opSum_of (x := (cHr t nn (i5 7437) 0)) (g := 11) (Or.inl ⟨(oq305 c29 hv9 koq43), (oq306 koq11)⟩)) (oq307 koq11) (oq280 efi5_7429 efig2_7429 efig32_7429 hn1 s30 z33.2.1 z33.2.2.1 koq1) og32 (oq151 c34 z33.2.2.2.2.2.1 koq0) (tCod og35.1 og35.2 (kg35.fi 7437 rfl)) (oq268 efig35_7437 s30 z33.2.1 koq1)) (kj_meas (oq269 efig32_7429 efig35_7429 efig35_7437 s30 z33.2.1 koq1) (oq270 efig32_7429 s30 z33.2.1 z33.2.2.1 koq1) hm5)
          ·
            have c39 : vg32.toInt = (0 : Int32).toInt := kd_neF c; clear c
            have hG40 := kG_call hGg2 hGg32 (by decide +kernel)
            refine ft_go mi_k154 1 63 [(1, .int 11), (0, .ref 116)] [.int 0] ig32 ag32 qg32 rg32 (by rfl) ?_
            exact ft_ret mi_k154 (by rfl) (hP 0 _ _ _ _ hG40 ⟨(oq295 p5_0 p5_3 p5_4 p5_5 s30 z33.1 z33.2.1 z33.2.2.1 z33.2.2.2.1 z33.2.2.2.2.1 koq1 koq0), (rGo_no O5_0 (opSum_of (x := (cHr t nn (i5 7437) 0)) (g := 11) (Or.inl ⟨(oq305 c29 hv9 koq43), (oq306 koq11)⟩)) (oq307 koq11) (oq280 efi5_7429 efig2_7429 efig32_7429 hn1 s30 z33.2.1 z33.2.2.1 koq1) og32 (oq143 c39 z33.2.2.2.2.2.1 koq0) rfl)⟩)
    exact lp5 _ _ _ _ _ (kG_self _ hGg2.I hGg2.R) (oq208 z3.1) (oq222 z3.2.1) (oq222 z3.2.2.1) (oq287 z3.2.2.2.1) (oq222 z3.2.2.2.2.1) (oq288 c4 z3.2.2.2.2.2.1 z3.2.2.2.2.2.2.1 z3.2.2.2.2.2.2.2 koq0) (rGo_begin og2 (oq151 c4 z3.2.2.2.2.2.1 koq0) (oq2 fig2_7437.1)) (Nat.lt_succ_self _)
  ·
    have c41 : vg2.toInt = (0 : Int32).toInt := kd_neF c; clear c
    refine ft_go mi_k154 1 8 [(0, .ref 116)] [.int 0] ig2 ag2 qg2 rg2 (by rfl) ?_
    exact ft_ret mi_k154 (by rfl) (hP 0 _ _ _ _ hGg2 ⟨(oq289 z3.1 z3.2.1 z3.2.2.1 z3.2.2.2.1 z3.2.2.2.2.1 koq0), (rMu_no og2 (oq143 c41 z3.2.2.2.2.2.1 koq0) rfl)⟩)
set_option maxRecDepth 100000 in
theorem kMsQ_155 (n : Nat) (h152 : kMQ_152 n) (h153 : kMQ_153 n) (h154 : kMQ_154 n) : kMQ_155 n := by
  intro i a q r hI hr hp0 hp1 hp2 t nn hT hN hX
  have hG := kG_self wQ hI hr
  refine km_ofI (q := (mi_h155, mi_c155)) rfl (by decide) (Nat.le_of_ble_eq_true rfl) ?_
  intro P hP
  have hn0 : (0 : Int) ≤ (n : Int) := Int.natCast_nonneg n
  have hn1 : (i 7429).toInt = nn.toInt := congrArg Int32.toInt hN
  refine ft_go mi_k155 1 1 [(0, .ref 116)] [.ref 116] i a q r (by rfl) ?_
  refine ko_callI mi_k155.1 (pc := 1) (ls := [(0, .ref 116)]) (st := [.ref 116]) (h := ks i a q r) (i := (.invokevirtual 199, 3, 154, 0, 9, 0, 400)) (mi_k155.2 _ _ (by rfl)) (ft_invS mi_pq154 (by rfl)) (cy := mi_c154) mi_pq154 rfl (h154 _ _ _ _ hG.I hG.R (oq246 hp0) (oq222 hp1) (oq222 hp2) t nn hT hN hX) (kj_d1 (n := n) (o := 12) (o1 := 13) (by decide)) ?_
  intro vg2 ig2 ag2 qg2 rg2 kg2 hg2
  have hGg2 := kG_call hG kg2 (by decide +kernel)
  obtain ⟨hg2, og2⟩ := hg2
  have fig2_7437 : ((0 : Int) ≤ (ig2 7437).toInt) ∧ ((ig2 7437).toInt ≤ 120) := hGg2.I.1 7437
  have fig2_7429 : ((0 : Int) ≤ (ig2 7429).toInt) ∧ ((ig2 7429).toInt ≤ 120) := hGg2.I.1 7429
  have z3 : ((ig2 7438).toInt = (i 7438).toInt) ∧ ((i 7437).toInt ≤ (ig2 7437).toInt) ∧ ((ig2 7437).toInt ≤ (ig2 7429).toInt) ∧ (((ig2 7439).toInt - (ig2 7437).toInt) ≤ ((i 7439).toInt - (i 7437).toInt)) ∧ ((i 7439).toInt ≤ (ig2 7439).toInt) ∧ ((0 : Int) ≤ vg2.toInt) ∧ (vg2.toInt ≤ 1) ∧ (((vg2.toInt = 1) → (((i 7437).toInt + 1) ≤ (ig2 7437).toInt))) := hg2
  refine ft_if mi_k155 (vg2 != 0) 9 7 [(0, .ref 116)] [] (by rfl) (fun c => ?_) (fun c => ?_)
  ·
    have c4 : vg2.toInt ≠ (0 : Int32).toInt := kd_ne c; clear c
    refine ft_go mi_k155 1 10 [(0, .ref 116)] [.ref 116] ig2 ag2 qg2 rg2 (by rfl) ?_
    refine ko_callPI mi_k155.1 (pc := 10) (ls := [(0, .ref 116)]) (st := [.ref 116]) (h := ks ig2 ag2 qg2 rg2) (i := (.invokevirtual 166, 3, 147, 0, 9, 0, 404)) (mi_k155.2 _ _ (by rfl)) (ft_invS mi_pq147 (by rfl)) (cy := mi_c147) mi_pq147 rfl (ke147_116 hGg2.I hGg2.R t nn ((kg2.fa 119 rfl).trans hT) ((kg2.fi 7429 rfl).trans hN) hX) (kj_d3 (n := n) (c := 1) (o1 := 13) (by decide)) ?_
    intro vg5 hg5
    obtain ⟨hg5, og5⟩ := hg5
    have z6 : (((-1) : Int) ≤ vg5.toInt) ∧ (vg5.toInt ≤ 255) ∧ ((vg5.toInt = (-1)) ∨ ((ig2 7437).toInt < (ig2 7429).toInt)) := hg5
    have q7 : vg5 = cHr t nn (ig2 7437) 0 := og5
    have hv8 : vg5.toInt = (cHr t nn (ig2 7437) 0).toInt := congrArg Int32.toInt og5
    refine ft_go mi_k155 1 15 [(0, .ref 116)] [.int 60, .int vg5] ig2 ag2 qg2 rg2 (by rfl) ?_
    refine ft_if mi_k155 (vg5 != 60) 23 18 [(0, .ref 116)] [] (by rfl) (fun c => ?_) (fun c => ?_)
    ·
      have c9 : vg5.toInt ≠ (60 : Int32).toInt := kd_ne c; clear c
      refine ft_go mi_k155 1 24 [(0, .ref 116)] [.ref 116] ig2 ag2 qg2 rg2 (by rfl) ?_
      refine ko_callPI mi_k155.1 (pc := 24) (ls := [(0, .ref 116)]) (st := [.ref 116]) (h := ks ig2 ag2 qg2 rg2) (i := (.invokevirtual 166, 3, 147, 0, 9, 0, 404)) (mi_k155.2 _ _ (by rfl)) (ft_invS mi_pq147 (by rfl)) (cy := mi_c147) mi_pq147 rfl (ke147_116 hGg2.I hGg2.R t nn ((kg2.fa 119 rfl).trans hT) ((kg2.fi 7429 rfl).trans hN) hX) (kj_d3 (n := n) (c := 1) (o1 := 13) (by decide)) ?_
      intro vg10 hg10
      obtain ⟨hg10, og10⟩ := hg10
      have q12 : vg10 = cHr t nn (ig2 7437) 0 := og10
      have hv13 : vg10.toInt = (cHr t nn (ig2 7437) 0).toInt := congrArg Int32.toInt og10
      refine ft_go mi_k155 1 29 [(0, .ref 116)] [.int 61, .int vg10] ig2 ag2 qg2 rg2 (by rfl) ?_
      refine ft_if mi_k155 (vg10 != 61) 37 32 [(0, .ref 116)] [] (by rfl) (fun c => ?_) (fun c => ?_)
      ·
        have c14 : vg10.toInt ≠ (61 : Int32).toInt := kd_ne c; clear c
        refine ft_go mi_k155 1 38 [(0, .ref 116)] [.ref 116] ig2 ag2 qg2 rg2 (by rfl) ?_
        refine ko_callPI mi_k155.1 (pc := 38) (ls := [(0, .ref 116)]) (st := [.ref 116]) (h := ks ig2 ag2 qg2 rg2) (i := (.invokevirtual 166, 3, 147, 0, 9, 0, 404)) (mi_k155.2 _ _ (by rfl)) (ft_invS mi_pq147 (by rfl)) (cy := mi_c147) mi_pq147 rfl (ke147_116 hGg2.I hGg2.R t nn ((kg2.fa 119 rfl).trans hT) ((kg2.fi 7429 rfl).trans hN) hX) (kj_d3 (n := n) (c := 1) (o1 := 13) (by decide)) ?_
        intro vg15 hg15
        obtain ⟨hg15, og15⟩ := hg15
        have q17 : vg15 = cHr t nn (ig2 7437) 0 := og15
        have hv18 : vg15.toInt = (cHr t nn (ig2 7437) 0).toInt := congrArg Int32.toInt og15
        refine ft_go mi_k155 1 43 [(0, .ref 116)] [.int 62, .int vg15] ig2 ag2 qg2 rg2 (by rfl) ?_
        refine ft_if mi_k155 (vg15 != 62) 51 46 [(0, .ref 116)] [] (by rfl) (fun c => ?_) (fun c => ?_)
        ·
          have c19 : vg15.toInt ≠ (62 : Int32).toInt := kd_ne c; clear c
          refine ft_go mi_k155 5 58 [(1, .int (-1)), (0, .ref 116)] [.int 1] ig2 ag2 qg2 rg2 (by rfl) ?_
          exact ft_ret mi_k155 (by rfl) (hP 1 _ _ _ _ hGg2 ⟨(oq308 c4 z3.1 z3.2.1 z3.2.2.1 z3.2.2.2.1 z3.2.2.2.2.1 z3.2.2.2.2.2.1 z3.2.2.2.2.2.2.1 z3.2.2.2.2.2.2.2 koq0 koq1), (rCm_one og2 (oq151 c4 z3.2.2.2.2.2.1 koq0) (opCmp_of (x := (cHr t nn (ig2 7437) 0)) (g := (-1)) (Or.inr (Or.inr (Or.inr (⟨(oq309 c9 hv8 koq60), (oq310 c14 c9 hv13 hv8 koq61 koq60), (oq311 c14 c19 c9 hv13 hv18 hv8 koq61 koq62 koq60), (oq251 koqm1)⟩))))) (oq252 koqm1) rfl)⟩)
        ·
          have c20 : vg15.toInt = (62 : Int32).toInt := kd_neF c; clear c
          have s21 : ((ig2 7437) + 1).toInt = (ig2 7437).toInt + (1 : Int32).toInt := kd_add (oq115 fig2_7437.1 koq1) (oq116 fig2_7437.2 koq1)
          have hJ22 := kG_i hGg2 7437 rfl (v := ((ig2 7437) + 1)) ⟨(oq117 fig2_7437.1 s21 koq1), (oq312 c20 fig2_7429.2 hv18 hv8 s21 z6.2.2 koq62 koq1)⟩
          refine ft_go mi_k155 12 70 [(1, .int 10), (0, .ref 116)] [.ref 116] (ku ig2 7437 ((ig2 7437) + 1)) ag2 qg2 rg2 (by rfl) ?_
          refine ko_callI mi_k155.1 (pc := 70) (ls := [(1, .int 10), (0, .ref 116)]) (st := [.ref 116]) (h := ks (ku ig2 7437 ((ig2 7437) + 1)) ag2 qg2 rg2) (i := (.invokevirtual 199, 3, 154, 0, 9, 0, 400)) (mi_k155.2 _ _ (by rfl)) (ft_invS mi_pq154 (by rfl)) (cy := mi_c154) mi_pq154 rfl (h154 _ _ _ _ hJ22.I hJ22.R (oq291 hp0 z3.1) (oq313 hp1 s21 z3.2.2.2.1 koq1) (oq314 c20 hv18 hv8 s21 z6.2.2 koq62 koq1) t nn ((kg2.fa 119 rfl).trans hT) ((kg2.fi 7429 rfl).trans hN) hX) (kj_d1 (n := n) (o := 12) (o1 := 13) (by decide)) ?_
          intro vg23 ig23 ag23 qg23 rg23 kg23 hg23
          have hGg23 := kG_call hJ22 kg23 (by decide +kernel)
          obtain ⟨hg23, og23⟩ := hg23
          have fig23_7437 : ((0 : Int) ≤ (ig23 7437).toInt) ∧ ((ig23 7437).toInt ≤ 120) := hGg23.I.1 7437
          have fig23_7439 : ((0 : Int) ≤ (ig23 7439).toInt) ∧ ((ig23 7439).toInt ≤ 200) := hGg23.I.1 7439
          have z24 : ((ig23 7438).toInt = (ig2 7438).toInt) ∧ (((ig2 7437) + 1).toInt ≤ (ig23 7437).toInt) ∧ ((ig23 7437).toInt ≤ (ig23 7429).toInt) ∧ (((ig23 7439).toInt - (ig23 7437).toInt) ≤ ((ig2 7439).toInt - ((ig2 7437) + 1).toInt)) ∧ ((ig2 7439).toInt ≤ (ig23 7439).toInt) ∧ ((0 : Int) ≤ vg23.toInt) ∧ (vg23.toInt ≤ 1) ∧ (((vg23.toInt = 1) → ((((ig2 7437) + 1).toInt + 1) ≤ (ig23 7437).toInt))) := hg23
          refine ft_if mi_k155 (vg23 == 0) 88 76 [(1, .int 10), (0, .ref 116)] [] (by rfl) (fun c => ?_) (fun c => ?_)
          ·
            have c25 : vg23.toInt = (0 : Int32).toInt := kd_eq c; clear c
            refine ft_go mi_k155 1 89 [(1, .int 10), (0, .ref 116)] [.int 0] ig23 ag23 qg23 rg23 (by rfl) ?_
            exact ft_ret mi_k155 (by rfl) (hP 0 _ _ _ _ hGg23 ⟨(oq315 s21 z24.1 z24.2.1 z24.2.2.1 z24.2.2.2.1 z24.2.2.2.2.1 z3.1 z3.2.1 z3.2.2.2.1 z3.2.2.2.2.1 koq1 koq0), (rCm_two og2 (oq151 c4 z3.2.2.2.2.2.1 koq0) (opCmp_of (x := (cHr t nn (ig2 7437) 0)) (g := 10) (Or.inr (Or.inr (Or.inl ⟨(oq316 c20 hv18 koq62), (oq317 koq10)⟩)))) (oq318 koq10) og23 (rC2_no (oq143 c25 z24.2.2.2.2.2.1 koq0) rfl))⟩)
          ·
            have c26 : vg23.toInt ≠ (0 : Int32).toInt := kd_eqF c; clear c
            refine ft_go mi_k155 2 78 [(1, .int 10), (0, .ref 116)] [.int 10, .ref 116] ig23 ag23 qg23 rg23 (by rfl) ?_
            refine ko_callI mi_k155.1 (pc := 78) (ls := [(1, .int 10), (0, .ref 116)]) (st := [.int 10, .ref 116]) (h := ks ig23 ag23 qg23 rg23) (i := (.invokevirtual 177, 3, 149, 0, 9, 0, 405)) (mi_k155.2 _ _ (by rfl)) (ft_invS mi_pq149 (by rfl)) (cy := mi_c149) mi_pq149 rfl (kf149_116 hGg23.I hGg23.R 10 (oq319 fig23_7437.2 fig23_7439.1 hp1 s21 z24.2.2.2.1 z3.2.2.2.1 koq1)) (kj_d3 (n := n) (c := 1) (o1 := 13) (by decide)) ?_
            intro vg27 ig27 ag27 qg27 rg27 kg27 hg27
            have hGg27 := kG_call hGg23 kg27 (by decide +kernel)
            obtain ⟨hg27, og27⟩ := hg27
            have z28 : (vg27.toInt = 1) ∧ ((ig27 7439).toInt = ((ig23 7439).toInt + 1)) := hg27
            have q29 : ag27 127 = (ag23 127).set (ig23 7439).toNatClampNeg (10 : Int32) := og27.1
            have q30 : ig27 7439 = ig23 7439 + 1 := og27.2
            refine ft_if mi_k155 (vg27 == 0) 88 84 [(1, .int 10), (0, .ref 116)] [] (by rfl) (fun c => ?_) (fun c => ?_)
            ·
              have c31 : vg27.toInt = (0 : Int32).toInt := kd_eq c; clear c
              exact (oq169 c31 z28.1 koq0).elim
            ·
              have c32 : vg27.toInt ≠ (0 : Int32).toInt := kd_eqF c; clear c
              refine ft_go mi_k155 2 89 [(1, .int 10), (0, .ref 116)] [.int 1] ig27 ag27 qg27 rg27 (by rfl) ?_
              have efig27_7438 : (ig27 7438).toInt = (ig23 7438).toInt := kg27.ti 7438 rfl
              have efig27_7437 : (ig27 7437).toInt = (ig23 7437).toInt := kg27.ti 7437 rfl
              have efig27_7429 : (ig27 7429).toInt = (ig23 7429).toInt := kg27.ti 7429 rfl
              exact ft_ret mi_k155 (by rfl) (hP 1 _ _ _ _ hGg27 ⟨(oq320 efig27_7429 efig27_7437 efig27_7438 s21 z24.1 z24.2.1 z24.2.2.1 z24.2.2.2.1 z24.2.2.2.2.1 z28.2 z3.1 z3.2.1 z3.2.2.2.1 z3.2.2.2.2.1 koq1), (rCm_two og2 (oq151 c4 z3.2.2.2.2.2.1 koq0) (opCmp_of (x := (cHr t nn (ig2 7437) 0)) (g := 10) (Or.inr (Or.inr (Or.inl ⟨(oq316 c20 hv18 koq62), (oq317 koq10)⟩)))) (oq318 koq10) og23 (rC2_yes (oq151 c26 z24.2.2.2.2.2.1 koq0) (tCod og27.1 og27.2 (kg27.fi 7437 rfl)) rfl))⟩)
      ·
        have c33 : vg10.toInt = (61 : Int32).toInt := kd_neF c; clear c
        have s34 : ((ig2 7437) + 1).toInt = (ig2 7437).toInt + (1 : Int32).toInt := kd_add (oq115 fig2_7437.1 koq1) (oq116 fig2_7437.2 koq1)
        have hJ35 := kG_i hGg2 7437 rfl (v := ((ig2 7437) + 1)) ⟨(oq117 fig2_7437.1 s34 koq1), (oq321 c33 fig2_7429.2 hv13 hv8 s34 z6.2.2 koq61 koq1)⟩
        refine ft_go mi_k155 12 70 [(1, .int 9), (0, .ref 116)] [.ref 116] (ku ig2 7437 ((ig2 7437) + 1)) ag2 qg2 rg2 (by rfl) ?_
        refine ko_callI mi_k155.1 (pc := 70) (ls := [(1, .int 9), (0, .ref 116)]) (st := [.ref 116]) (h := ks (ku ig2 7437 ((ig2 7437) + 1)) ag2 qg2 rg2) (i := (.invokevirtual 199, 3, 154, 0, 9, 0, 400)) (mi_k155.2 _ _ (by rfl)) (ft_invS mi_pq154 (by rfl)) (cy := mi_c154) mi_pq154 rfl (h154 _ _ _ _ hJ35.I hJ35.R (oq291 hp0 z3.1) (oq313 hp1 s34 z3.2.2.2.1 koq1) (oq322 c33 hv13 hv8 s34 z6.2.2 koq61 koq1) t nn ((kg2.fa 119 rfl).trans hT) ((kg2.fi 7429 rfl).trans hN) hX) (kj_d1 (n := n) (o := 12) (o1 := 13) (by decide)) ?_
        intro vg36 ig36 ag36 qg36 rg36 kg36 hg36
        have hGg36 := kG_call hJ35 kg36 (by decide +kernel)
        obtain ⟨hg36, og36⟩ := hg36
        have fig36_7437 : ((0 : Int) ≤ (ig36 7437).toInt) ∧ ((ig36 7437).toInt ≤ 120) := hGg36.I.1 7437
        have fig36_7439 : ((0 : Int) ≤ (ig36 7439).toInt) ∧ ((ig36 7439).toInt ≤ 200) := hGg36.I.1 7439
        have z37 : ((ig36 7438).toInt = (ig2 7438).toInt) ∧ (((ig2 7437) + 1).toInt ≤ (ig36 7437).toInt) ∧ ((ig36 7437).toInt ≤ (ig36 7429).toInt) ∧ (((ig36 7439).toInt - (ig36 7437).toInt) ≤ ((ig2 7439).toInt - ((ig2 7437) + 1).toInt)) ∧ ((ig2 7439).toInt ≤ (ig36 7439).toInt) ∧ ((0 : Int) ≤ vg36.toInt) ∧ (vg36.toInt ≤ 1) ∧ (((vg36.toInt = 1) → ((((ig2 7437) + 1).toInt + 1) ≤ (ig36 7437).toInt))) := hg36
        refine ft_if mi_k155 (vg36 == 0) 88 76 [(1, .int 9), (0, .ref 116)] [] (by rfl) (fun c => ?_) (fun c => ?_)
        ·
          have c38 : vg36.toInt = (0 : Int32).toInt := kd_eq c; clear c
          refine ft_go mi_k155 1 89 [(1, .int 9), (0, .ref 116)] [.int 0] ig36 ag36 qg36 rg36 (by rfl) ?_
          exact ft_ret mi_k155 (by rfl) (hP 0 _ _ _ _ hGg36 ⟨(oq323 s34 z3.1 z3.2.1 z3.2.2.2.1 z3.2.2.2.2.1 z37.1 z37.2.1 z37.2.2.1 z37.2.2.2.1 z37.2.2.2.2.1 koq1 koq0), (rCm_two og2 (oq151 c4 z3.2.2.2.2.2.1 koq0) (opCmp_of (x := (cHr t nn (ig2 7437) 0)) (g := 9) (Or.inr (Or.inl ⟨(oq324 c33 hv13 koq61), (oq325 koq9)⟩))) (oq326 koq9) og36 (rC2_no (oq143 c38 z37.2.2.2.2.2.1 koq0) rfl))⟩)
        ·
          have c39 : vg36.toInt ≠ (0 : Int32).toInt := kd_eqF c; clear c
          refine ft_go mi_k155 2 78 [(1, .int 9), (0, .ref 116)] [.int 9, .ref 116] ig36 ag36 qg36 rg36 (by rfl) ?_
          refine ko_callI mi_k155.1 (pc := 78) (ls := [(1, .int 9), (0, .ref 116)]) (st := [.int 9, .ref 116]) (h := ks ig36 ag36 qg36 rg36) (i := (.invokevirtual 177, 3, 149, 0, 9, 0, 405)) (mi_k155.2 _ _ (by rfl)) (ft_invS mi_pq149 (by rfl)) (cy := mi_c149) mi_pq149 rfl (kf149_116 hGg36.I hGg36.R 9 (oq327 fig36_7437.2 fig36_7439.1 hp1 s34 z3.2.2.2.1 z37.2.2.2.1 koq1)) (kj_d3 (n := n) (c := 1) (o1 := 13) (by decide)) ?_
          intro vg40 ig40 ag40 qg40 rg40 kg40 hg40
          have hGg40 := kG_call hGg36 kg40 (by decide +kernel)
          obtain ⟨hg40, og40⟩ := hg40
          have z41 : (vg40.toInt = 1) ∧ ((ig40 7439).toInt = ((ig36 7439).toInt + 1)) := hg40
          have q42 : ag40 127 = (ag36 127).set (ig36 7439).toNatClampNeg (9 : Int32) := og40.1
          have q43 : ig40 7439 = ig36 7439 + 1 := og40.2
          refine ft_if mi_k155 (vg40 == 0) 88 84 [(1, .int 9), (0, .ref 116)] [] (by rfl) (fun c => ?_) (fun c => ?_)
          ·
            have c44 : vg40.toInt = (0 : Int32).toInt := kd_eq c; clear c
            exact (oq169 c44 z41.1 koq0).elim
          ·
            have c45 : vg40.toInt ≠ (0 : Int32).toInt := kd_eqF c; clear c
            refine ft_go mi_k155 2 89 [(1, .int 9), (0, .ref 116)] [.int 1] ig40 ag40 qg40 rg40 (by rfl) ?_
            have efig40_7438 : (ig40 7438).toInt = (ig36 7438).toInt := kg40.ti 7438 rfl
            have efig40_7437 : (ig40 7437).toInt = (ig36 7437).toInt := kg40.ti 7437 rfl
            have efig40_7429 : (ig40 7429).toInt = (ig36 7429).toInt := kg40.ti 7429 rfl
            exact ft_ret mi_k155 (by rfl) (hP 1 _ _ _ _ hGg40 ⟨(oq328 efig40_7429 efig40_7437 efig40_7438 s34 z3.1 z3.2.1 z3.2.2.2.1 z3.2.2.2.2.1 z37.1 z37.2.1 z37.2.2.1 z37.2.2.2.1 z37.2.2.2.2.1 z41.2 koq1), (rCm_two og2 (oq151 c4 z3.2.2.2.2.2.1 koq0) (opCmp_of (x := (cHr t nn (ig2 7437) 0)) (g := 9) (Or.inr (Or.inl ⟨(oq324 c33 hv13 koq61), (oq325 koq9)⟩))) (oq326 koq9) og36 (rC2_yes (oq151 c39 z37.2.2.2.2.2.1 koq0) (tCod og40.1 og40.2 (kg40.fi 7437 rfl)) rfl))⟩)
    ·
      have c46 : vg5.toInt = (60 : Int32).toInt := kd_neF c; clear c
      have s47 : ((ig2 7437) + 1).toInt = (ig2 7437).toInt + (1 : Int32).toInt := kd_add (oq115 fig2_7437.1 koq1) (oq116 fig2_7437.2 koq1)
      have hJ48 := kG_i hGg2 7437 rfl (v := ((ig2 7437) + 1)) ⟨(oq117 fig2_7437.1 s47 koq1), (oq329 c46 fig2_7429.2 s47 z6.2.2 koq60 koq1)⟩
      refine ft_go mi_k155 12 70 [(1, .int 8), (0, .ref 116)] [.ref 116] (ku ig2 7437 ((ig2 7437) + 1)) ag2 qg2 rg2 (by rfl) ?_
      refine ko_callI mi_k155.1 (pc := 70) (ls := [(1, .int 8), (0, .ref 116)]) (st := [.ref 116]) (h := ks (ku ig2 7437 ((ig2 7437) + 1)) ag2 qg2 rg2) (i := (.invokevirtual 199, 3, 154, 0, 9, 0, 400)) (mi_k155.2 _ _ (by rfl)) (ft_invS mi_pq154 (by rfl)) (cy := mi_c154) mi_pq154 rfl (h154 _ _ _ _ hJ48.I hJ48.R (oq291 hp0 z3.1) (oq313 hp1 s47 z3.2.2.2.1 koq1) (oq330 c46 s47 z6.2.2 koq60 koq1) t nn ((kg2.fa 119 rfl).trans hT) ((kg2.fi 7429 rfl).trans hN) hX) (kj_d1 (n := n) (o := 12) (o1 := 13) (by decide)) ?_
      intro vg49 ig49 ag49 qg49 rg49 kg49 hg49
      have hGg49 := kG_call hJ48 kg49 (by decide +kernel)
      obtain ⟨hg49, og49⟩ := hg49
      have fig49_7437 : ((0 : Int) ≤ (ig49 7437).toInt) ∧ ((ig49 7437).toInt ≤ 120) := hGg49.I.1 7437
      have fig49_7439 : ((0 : Int) ≤ (ig49 7439).toInt) ∧ ((ig49 7439).toInt ≤ 200) := hGg49.I.1 7439
      have z50 : ((ig49 7438).toInt = (ig2 7438).toInt) ∧ (((ig2 7437) + 1).toInt ≤ (ig49 7437).toInt) ∧ ((ig49 7437).toInt ≤ (ig49 7429).toInt) ∧ (((ig49 7439).toInt - (ig49 7437).toInt) ≤ ((ig2 7439).toInt - ((ig2 7437) + 1).toInt)) ∧ ((ig2 7439).toInt ≤ (ig49 7439).toInt) ∧ ((0 : Int) ≤ vg49.toInt) ∧ (vg49.toInt ≤ 1) ∧ (((vg49.toInt = 1) → ((((ig2 7437) + 1).toInt + 1) ≤ (ig49 7437).toInt))) := hg49
      refine ft_if mi_k155 (vg49 == 0) 88 76 [(1, .int 8), (0, .ref 116)] [] (by rfl) (fun c => ?_) (fun c => ?_)
      ·
        have c51 : vg49.toInt = (0 : Int32).toInt := kd_eq c; clear c
        refine ft_go mi_k155 1 89 [(1, .int 8), (0, .ref 116)] [.int 0] ig49 ag49 qg49 rg49 (by rfl) ?_
        exact ft_ret mi_k155 (by rfl) (hP 0 _ _ _ _ hGg49 ⟨(oq323 s47 z3.1 z3.2.1 z3.2.2.2.1 z3.2.2.2.2.1 z50.1 z50.2.1 z50.2.2.1 z50.2.2.2.1 z50.2.2.2.2.1 koq1 koq0), (rCm_two og2 (oq151 c4 z3.2.2.2.2.2.1 koq0) (opCmp_of (x := (cHr t nn (ig2 7437) 0)) (g := 8) (Or.inl ⟨(oq331 c46 hv8 koq60), (oq332 koq8)⟩)) (oq333 koq8) og49 (rC2_no (oq143 c51 z50.2.2.2.2.2.1 koq0) rfl))⟩)
      ·
        have c52 : vg49.toInt ≠ (0 : Int32).toInt := kd_eqF c; clear c
        refine ft_go mi_k155 2 78 [(1, .int 8), (0, .ref 116)] [.int 8, .ref 116] ig49 ag49 qg49 rg49 (by rfl) ?_
        refine ko_callI mi_k155.1 (pc := 78) (ls := [(1, .int 8), (0, .ref 116)]) (st := [.int 8, .ref 116]) (h := ks ig49 ag49 qg49 rg49) (i := (.invokevirtual 177, 3, 149, 0, 9, 0, 405)) (mi_k155.2 _ _ (by rfl)) (ft_invS mi_pq149 (by rfl)) (cy := mi_c149) mi_pq149 rfl (kf149_116 hGg49.I hGg49.R 8 (oq327 fig49_7437.2 fig49_7439.1 hp1 s47 z3.2.2.2.1 z50.2.2.2.1 koq1)) (kj_d3 (n := n) (c := 1) (o1 := 13) (by decide)) ?_
        intro vg53 ig53 ag53 qg53 rg53 kg53 hg53
        have hGg53 := kG_call hGg49 kg53 (by decide +kernel)
        obtain ⟨hg53, og53⟩ := hg53
        have z54 : (vg53.toInt = 1) ∧ ((ig53 7439).toInt = ((ig49 7439).toInt + 1)) := hg53
        have q55 : ag53 127 = (ag49 127).set (ig49 7439).toNatClampNeg (8 : Int32) := og53.1
        have q56 : ig53 7439 = ig49 7439 + 1 := og53.2
        refine ft_if mi_k155 (vg53 == 0) 88 84 [(1, .int 8), (0, .ref 116)] [] (by rfl) (fun c => ?_) (fun c => ?_)
        ·
          have c57 : vg53.toInt = (0 : Int32).toInt := kd_eq c; clear c
          exact (oq169 c57 z54.1 koq0).elim
        ·
          have c58 : vg53.toInt ≠ (0 : Int32).toInt := kd_eqF c; clear c
          refine ft_go mi_k155 2 89 [(1, .int 8), (0, .ref 116)] [.int 1] ig53 ag53 qg53 rg53 (by rfl) ?_
          have efig53_7438 : (ig53 7438).toInt = (ig49 7438).toInt := kg53.ti 7438 rfl
          have efig53_7437 : (ig53 7437).toInt = (ig49 7437).toInt := kg53.ti 7437 rfl
          have efig53_7429 : (ig53 7429).toInt = (ig49 7429).toInt := kg53.ti 7429 rfl
          exact ft_ret mi_k155 (by rfl) (hP 1 _ _ _ _ hGg53 ⟨(oq328 efig53_7429 efig53_7437 efig53_7438 s47 z3.1 z3.2.1 z3.2.2.2.1 z3.2.2.2.2.1 z50.1 z50.2.1 z50.2.2.1 z50.2.2.2.1 z50.2.2.2.2.1 z54.2 koq1), (rCm_two og2 (oq151 c4 z3.2.2.2.2.2.1 koq0) (opCmp_of (x := (cHr t nn (ig2 7437) 0)) (g := 8) (Or.inl ⟨(oq331 c46 hv8 koq60), (oq332 koq8)⟩)) (oq333 koq8) og49 (rC2_yes (oq151 c52 z50.2.2.2.2.2.1 koq0) (tCod og53.1 og53.2 (kg53.fi 7437 rfl)) rfl))⟩)
  ·
    have c59 : vg2.toInt = (0 : Int32).toInt := kd_neF c; clear c
    refine ft_go mi_k155 1 8 [(0, .ref 116)] [.int 0] ig2 ag2 qg2 rg2 (by rfl) ?_
    exact ft_ret mi_k155 (by rfl) (hP 0 _ _ _ _ hGg2 ⟨(oq289 z3.1 z3.2.1 z3.2.2.1 z3.2.2.2.1 z3.2.2.2.2.1 koq0), (rCm_no og2 (oq143 c59 z3.2.2.2.2.2.1 koq0) rfl)⟩)
set_option maxRecDepth 100000 in
theorem kMsQ_156 (n : Nat) (h152 : kMQ_152 n) (h153 : kMQ_153 n) (h154 : kMQ_154 n) (h155 : kMQ_155 n) : kMQ_156 n := by
  intro i a q r hI hr hp0 hp1 hp2 t nn hT hN hX
  have hG := kG_self wQ hI hr
  refine km_ofI (q := (mi_h156, mi_c156)) rfl (by decide) (Nat.le_of_ble_eq_true rfl) ?_
  intro P hP
  have hn0 : (0 : Int) ≤ (n : Int) := Int.natCast_nonneg n
  have hn1 : (i 7429).toInt = nn.toInt := congrArg Int32.toInt hN
  refine ft_go mi_k156 1 1 [(0, .ref 116)] [.ref 116] i a q r (by rfl) ?_
  refine ko_callI mi_k156.1 (pc := 1) (ls := [(0, .ref 116)]) (st := [.ref 116]) (h := ks i a q r) (i := (.invokevirtual 202, 3, 155, 0, 9, 0, 399)) (mi_k156.2 _ _ (by rfl)) (ft_invS mi_pq155 (by rfl)) (cy := mi_c155) mi_pq155 rfl (h155 _ _ _ _ hG.I hG.R (oq246 hp0) (oq222 hp1) (oq222 hp2) t nn hT hN hX) (kj_d1 (n := n) (o := 13) (o1 := 14) (by decide)) ?_
  intro vg2 ig2 ag2 qg2 rg2 kg2 hg2
  have hGg2 := kG_call hG kg2 (by decide +kernel)
  obtain ⟨hg2, og2⟩ := hg2
  have fig2_7437 : ((0 : Int) ≤ (ig2 7437).toInt) ∧ ((ig2 7437).toInt ≤ 120) := hGg2.I.1 7437
  have efig2_7429 : (ig2 7429).toInt = (i 7429).toInt := kg2.ti 7429 rfl
  have z3 : ((ig2 7438).toInt = (i 7438).toInt) ∧ ((i 7437).toInt ≤ (ig2 7437).toInt) ∧ ((ig2 7437).toInt ≤ (ig2 7429).toInt) ∧ (((ig2 7439).toInt - (ig2 7437).toInt) ≤ ((i 7439).toInt - (i 7437).toInt)) ∧ ((i 7439).toInt ≤ (ig2 7439).toInt) ∧ ((0 : Int) ≤ vg2.toInt) ∧ (vg2.toInt ≤ 1) ∧ (((vg2.toInt = 1) → (((i 7437).toInt + 1) ≤ (ig2 7437).toInt))) := hg2
  refine ft_if mi_k156 (vg2 != 0) 9 7 [(0, .ref 116)] [] (by rfl) (fun c => ?_) (fun c => ?_)
  ·
    have c4 : vg2.toInt ≠ (0 : Int32).toInt := kd_ne c; clear c
    have lp5 : ∀ (nz : Nat) (i5 : Nat → Int32) (a5 : Nat → List Int32) (q5 : Nat → List Int64) (r5 : Nat → Nat), kG yw156_116_L9 ig2 ag2 qg2 rg2 i5 a5 q5 r5 → (i5 7438).toInt = (i 7438).toInt → (i 7437).toInt ≤ (i5 7437).toInt → (i5 7437).toInt ≤ (i5 7429).toInt → ((i5 7439).toInt - (i5 7437).toInt) ≤ ((i 7439).toInt - (i 7437).toInt) → (i 7439).toInt ≤ (i5 7439).toInt → ((i 7437).toInt + 1) ≤ (i5 7437).toInt → rGb t nn (rP5 t nn (rO t nn n)) 38 7 (i5 7437, i5 7439, a5 127) (rBin t nn (rP5 t nn (rO t nn n)) 38 7 (i 7437, i 7439, a 127)) → (((i5 7429).toInt - (i5 7437).toInt)).toNat < nz → ko (6 * n + 14) (mi_h156, mi_c156) P (9, [(0, .ref 116)], [], (0, 0), ks i5 a5 q5 r5) := by
      intro nz
      induction nz with
      | zero =>
        intro _ _ _ _ _ _ _ _ _ _ _ _ hm
        exact absurd hm (Nat.not_lt_zero _)
      | succ nz ih5 =>
        intro i5 a5 q5 r5 hL5 p5_0 p5_1 p5_2 p5_3 p5_4 p5_5 O5_0 hm5
        have efi5_7429 : (i5 7429).toInt = (ig2 7429).toInt := hL5.ti 7429 rfl
        refine ft_go mi_k156 2 12 [(0, .ref 116)] [.int 38, .ref 116] i5 a5 q5 r5 (by rfl) ?_
        refine ko_callI mi_k156.1 (pc := 12) (ls := [(0, .ref 116)]) (st := [.int 38, .ref 116]) (h := ks i5 a5 q5 r5) (i := (.invokevirtual 187, 3, 148, 0, 9, 0, 407)) (mi_k156.2 _ _ (by rfl)) (ft_invS mi_pq148 (by rfl)) (cy := mi_c148) mi_pq148 rfl (ke148_116 hL5.I hL5.R 38 (oq334 koq38) t nn (((hL5.fa 119 rfl).trans (kg2.fa 119 rfl)).trans hT) (((hL5.fi 7429 rfl).trans (kg2.fi 7429 rfl)).trans hN) hX) (kj_d3 (n := n) (c := 3) (o1 := 14) (by decide)) ?_
        intro vg6 ig6 ag6 qg6 rg6 kg6 hg6
        have hGg6 := kG_call hL5 kg6 (by decide +kernel)
        obtain ⟨hg6, og6⟩ := hg6
        have z7 : (((vg6.toInt = 1) ∧ ((ig6 7437).toInt = ((i5 7437).toInt + 1)) ∧ ((i5 7437).toInt < (i5 7429).toInt) ∧ ((cHr t nn (i5 7437) 0).toInt = (38 : Int32).toInt)) ∨ ((vg6.toInt = 0) ∧ ((ig6 7437).toInt = (i5 7437).toInt))) ∧ (((vg6.toInt = 0) → ((cHr t nn (i5 7437) 0).toInt ≠ (38 : Int32).toInt))) := hg6
        have q8 : ((ig6 7437).toInt = (i5 7437).toInt → (cHr t nn (ig6 7437) 0).toInt = (cHr t nn (i5 7437) 0).toInt) := fun h => congrArg Int32.toInt (kHr_c (t := t) (n := nn) (kj_v h) rfl)
        refine ft_if mi_k156 (vg6 == 0) 37 18 [(0, .ref 116)] [] (by rfl) (fun c => ?_) (fun c => ?_)
        ·
          have c9 : vg6.toInt = (0 : Int32).toInt := kd_eq c; clear c
          have hG10 := kG_call hGg2 hGg6 (by decide +kernel)
          refine ft_go mi_k156 1 38 [(0, .ref 116)] [.int 1] ig6 ag6 qg6 rg6 (by rfl) ?_
          have efig6_7438 : (ig6 7438).toInt = (i5 7438).toInt := kg6.ti 7438 rfl
          have efig6_7429 : (ig6 7429).toInt = (i5 7429).toInt := kg6.ti 7429 rfl
          have efig6_7439 : (ig6 7439).toInt = (i5 7439).toInt := kg6.ti 7439 rfl
          exact ft_ret mi_k156 (by rfl) (hP 1 _ _ _ _ hG10 ⟨(oq351 c9 efig6_7429 efig6_7438 efig6_7439 p5_0 p5_2 p5_3 p5_4 p5_5 z7.1 koq0 koq38 koq1), (rGb_out O5_0 (tTkR og6 (kT2 (kg6.fi 7439 rfl) (kg6.fa 127 rfl))) (oq145 c9 koq0) (rTk_no (tTkR og6 (kT2 (kg6.fi 7439 rfl) (kg6.fa 127 rfl))) (oq145 c9 koq0)) rfl)⟩)
        ·
          have c11 : vg6.toInt ≠ (0 : Int32).toInt := kd_eqF c; clear c
          refine ft_go mi_k156 1 19 [(0, .ref 116)] [.ref 116] ig6 ag6 qg6 rg6 (by rfl) ?_
          have efig6_7438 : (ig6 7438).toInt = (i5 7438).toInt := kg6.ti 7438 rfl
          have efig6_7439 : (ig6 7439).toInt = (i5 7439).toInt := kg6.ti 7439 rfl
          have efig6_7429 : (ig6 7429).toInt = (i5 7429).toInt := kg6.ti 7429 rfl
          refine ko_callI mi_k156.1 (pc := 19) (ls := [(0, .ref 116)]) (st := [.ref 116]) (h := ks ig6 ag6 qg6 rg6) (i := (.invokevirtual 202, 3, 155, 0, 9, 0, 399)) (mi_k156.2 _ _ (by rfl)) (ft_invS mi_pq155 (by rfl)) (cy := mi_c155) mi_pq155 rfl (h155 _ _ _ _ hGg6.I hGg6.R (oq254 efig6_7438 hp0 p5_0) (oq337 efig6_7439 hp1 p5_3 z7.1 koq38) (oq338 efig6_7429 p5_2 z7.1 koq38) t nn ((((kg6.fa 119 rfl).trans (hL5.fa 119 rfl)).trans (kg2.fa 119 rfl)).trans hT) (((kg6.fi 7429 rfl).trans ((hL5.fi 7429 rfl).trans (kg2.fi 7429 rfl))).trans hN) hX) (kj_d1 (n := n) (o := 13) (o1 := 14) (by decide)) ?_
          intro vg12 ig12 ag12 qg12 rg12 kg12 hg12
          have hGg12 := kG_call hGg6 kg12 (by decide +kernel)
          obtain ⟨hg12, og12⟩ := hg12
          have fig12_7437 : ((0 : Int) ≤ (ig12 7437).toInt) ∧ ((ig12 7437).toInt ≤ 120) := hGg12.I.1 7437
          have efig12_7429 : (ig12 7429).toInt = (ig6 7429).toInt := kg12.ti 7429 rfl
          have fig12_7439 : ((0 : Int) ≤ (ig12 7439).toInt) ∧ ((ig12 7439).toInt ≤ 200) := hGg12.I.1 7439
          have z13 : ((ig12 7438).toInt = (ig6 7438).toInt) ∧ ((ig6 7437).toInt ≤ (ig12 7437).toInt) ∧ ((ig12 7437).toInt ≤ (ig12 7429).toInt) ∧ (((ig12 7439).toInt - (ig12 7437).toInt) ≤ ((ig6 7439).toInt - (ig6 7437).toInt)) ∧ ((ig6 7439).toInt ≤ (ig12 7439).toInt) ∧ ((0 : Int) ≤ vg12.toInt) ∧ (vg12.toInt ≤ 1) ∧ (((vg12.toInt = 1) → (((ig6 7437).toInt + 1) ≤ (ig12 7437).toInt))) := hg12
          refine ft_if mi_k156 (vg12 != 0) 27 25 [(0, .ref 116)] [] (by rfl) (fun c => ?_) (fun c => ?_)
          ·
            have c14 : vg12.toInt ≠ (0 : Int32).toInt := kd_ne c; clear c
            refine ft_go mi_k156 2 30 [(0, .ref 116)] [.int 7, .ref 116] ig12 ag12 qg12 rg12 (by rfl) ?_
            refine ko_callI mi_k156.1 (pc := 30) (ls := [(0, .ref 116)]) (st := [.int 7, .ref 116]) (h := ks ig12 ag12 qg12 rg12) (i := (.invokevirtual 177, 3, 149, 0, 9, 0, 405)) (mi_k156.2 _ _ (by rfl)) (ft_invS mi_pq149 (by rfl)) (cy := mi_c149) mi_pq149 rfl (kf149_116 hGg12.I hGg12.R 7 (oq339 efig6_7439 fig12_7437.2 fig12_7439.1 hp1 p5_3 z13.2.2.2.1 z7.1 koq38)) (kj_d3 (n := n) (c := 1) (o1 := 14) (by decide)) ?_
            intro vg15 ig15 ag15 qg15 rg15 kg15 hg15
            have hGg15 := kG_call hGg12 kg15 (by decide +kernel)
            obtain ⟨hg15, og15⟩ := hg15
            have z16 : (vg15.toInt = 1) ∧ ((ig15 7439).toInt = ((ig12 7439).toInt + 1)) := hg15
            have q17 : ag15 127 = (ag12 127).set (ig12 7439).toNatClampNeg (7 : Int32) := og15.1
            have q18 : ig15 7439 = ig12 7439 + 1 := og15.2
            refine ft_go mi_k156 2 9 [(0, .ref 116)] [] ig15 ag15 qg15 rg15 (by rfl) ?_
            have efig15_7438 : (ig15 7438).toInt = (ig12 7438).toInt := kg15.ti 7438 rfl
            have efig15_7437 : (ig15 7437).toInt = (ig12 7437).toInt := kg15.ti 7437 rfl
            have efig15_7429 : (ig15 7429).toInt = (ig12 7429).toInt := kg15.ti 7429 rfl
            exact ih5 _ _ _ _ hGg15 (oq352 efig15_7438 efig6_7438 p5_0 z13.1) (oq341 efig15_7437 p5_5 z13.2.1 z7.1 koq38) (oq260 efig15_7429 efig15_7437 z13.2.2.1) (oq353 c11 efig15_7437 efig6_7439 p5_3 z13.2.2.2.1 z16.2 z7.1 koq0 koq38) (oq276 efig6_7439 p5_4 z13.2.2.2.2.1 z16.2) (oq344 efig15_7437 p5_5 z13.2.1 z7.1 koq38) (rGb_again O5_0 (tTkR og6 (kT2 (kg6.fi 7439 rfl) (kg6.fa 127 rfl))) (oq345 c11 z7.1 koq0 koq38) (oq346 c11 efi5_7429 efig12_7429 efig2_7429 efig6_7429 hn1 z13.2.1 z13.2.2.1 z7.1 koq0 koq38) og12 (oq151 c14 z13.2.2.2.2.2.1 koq0) (tCod og15.1 og15.2 (kg15.fi 7437 rfl)) (oq347 c11 efig15_7437 z13.2.1 z7.1 koq0 koq38)) (kj_meas (oq348 c11 efig12_7429 efig15_7429 efig15_7437 efig6_7429 z13.2.1 z7.1 koq0 koq38) (oq349 c11 efig12_7429 efig6_7429 z13.2.1 z13.2.2.1 z7.1 koq0 koq38) hm5)
          ·
            have c19 : vg12.toInt = (0 : Int32).toInt := kd_neF c; clear c
            have hG20 := kG_call hGg2 hGg12 (by decide +kernel)
            refine ft_go mi_k156 1 26 [(0, .ref 116)] [.int 0] ig12 ag12 qg12 rg12 (by rfl) ?_
            exact ft_ret mi_k156 (by rfl) (hP 0 _ _ _ _ hG20 ⟨(oq354 efig6_7438 efig6_7439 p5_0 p5_3 p5_4 p5_5 z13.1 z13.2.1 z13.2.2.1 z13.2.2.2.1 z13.2.2.2.2.1 z7.1 koq38 koq0), (rGb_no O5_0 (tTkR og6 (kT2 (kg6.fi 7439 rfl) (kg6.fa 127 rfl))) (oq345 c11 z7.1 koq0 koq38) (oq346 c11 efi5_7429 efig12_7429 efig2_7429 efig6_7429 hn1 z13.2.1 z13.2.2.1 z7.1 koq0 koq38) og12 (oq143 c19 z13.2.2.2.2.2.1 koq0) rfl)⟩)
    exact lp5 _ _ _ _ _ (kG_self _ hGg2.I hGg2.R) (oq208 z3.1) (oq222 z3.2.1) (oq222 z3.2.2.1) (oq287 z3.2.2.2.1) (oq222 z3.2.2.2.2.1) (oq288 c4 z3.2.2.2.2.2.1 z3.2.2.2.2.2.2.1 z3.2.2.2.2.2.2.2 koq0) (rGb_begin og2 (oq151 c4 z3.2.2.2.2.2.1 koq0) (oq2 fig2_7437.1)) (Nat.lt_succ_self _)
  ·
    have c21 : vg2.toInt = (0 : Int32).toInt := kd_neF c; clear c
    refine ft_go mi_k156 1 8 [(0, .ref 116)] [.int 0] ig2 ag2 qg2 rg2 (by rfl) ?_
    exact ft_ret mi_k156 (by rfl) (hP 0 _ _ _ _ hGg2 ⟨(oq289 z3.1 z3.2.1 z3.2.2.1 z3.2.2.2.1 z3.2.2.2.2.1 koq0), (rBi_no og2 (oq143 c21 z3.2.2.2.2.2.1 koq0) rfl)⟩)
theorem rE_bin {t : List Int32} {n : Int32} {m : Nat} {S : rS} : rBin t n (rP6 t n (rO t n m)) 124 6 S = rE t n m S := rfl
set_option maxRecDepth 100000 in
theorem kMsQ_157 (n : Nat) (h152 : kMQ_152 n) (h153 : kMQ_153 n) (h154 : kMQ_154 n) (h155 : kMQ_155 n) (h156 : kMQ_156 n) : kMQ_157 n := by
  intro i a q r hI hr hp0 hp1 hp2 t nn hT hN hX
  have hG := kG_self wQ hI hr
  refine km_ofI (q := (mi_h157, mi_c157)) rfl (by decide) (Nat.le_of_ble_eq_true rfl) ?_
  intro P hP
  have hn0 : (0 : Int) ≤ (n : Int) := Int.natCast_nonneg n
  have hn1 : (i 7429).toInt = nn.toInt := congrArg Int32.toInt hN
  refine ft_go mi_k157 1 1 [(0, .ref 116)] [.ref 116] i a q r (by rfl) ?_
  refine ko_callI mi_k157.1 (pc := 1) (ls := [(0, .ref 116)]) (st := [.ref 116]) (h := ks i a q r) (i := (.invokevirtual 205, 3, 156, 0, 9, 0, 398)) (mi_k157.2 _ _ (by rfl)) (ft_invS mi_pq156 (by rfl)) (cy := mi_c156) mi_pq156 rfl (h156 _ _ _ _ hG.I hG.R (oq246 hp0) (oq222 hp1) (oq222 hp2) t nn hT hN hX) (kj_d1 (n := n) (o := 14) (o1 := 15) (by decide)) ?_
  intro vg2 ig2 ag2 qg2 rg2 kg2 hg2
  have hGg2 := kG_call hG kg2 (by decide +kernel)
  obtain ⟨hg2, og2⟩ := hg2
  have fig2_7437 : ((0 : Int) ≤ (ig2 7437).toInt) ∧ ((ig2 7437).toInt ≤ 120) := hGg2.I.1 7437
  have efig2_7429 : (ig2 7429).toInt = (i 7429).toInt := kg2.ti 7429 rfl
  have z3 : ((ig2 7438).toInt = (i 7438).toInt) ∧ ((i 7437).toInt ≤ (ig2 7437).toInt) ∧ ((ig2 7437).toInt ≤ (ig2 7429).toInt) ∧ (((ig2 7439).toInt - (ig2 7437).toInt) ≤ ((i 7439).toInt - (i 7437).toInt)) ∧ ((i 7439).toInt ≤ (ig2 7439).toInt) ∧ ((0 : Int) ≤ vg2.toInt) ∧ (vg2.toInt ≤ 1) ∧ (((vg2.toInt = 1) → (((i 7437).toInt + 1) ≤ (ig2 7437).toInt))) := hg2
  refine ft_if mi_k157 (vg2 != 0) 9 7 [(0, .ref 116)] [] (by rfl) (fun c => ?_) (fun c => ?_)
  ·
    have c4 : vg2.toInt ≠ (0 : Int32).toInt := kd_ne c; clear c
    have lp5 : ∀ (nz : Nat) (i5 : Nat → Int32) (a5 : Nat → List Int32) (q5 : Nat → List Int64) (r5 : Nat → Nat), kG yw157_116_L9 ig2 ag2 qg2 rg2 i5 a5 q5 r5 → (i5 7438).toInt = (i 7438).toInt → (i 7437).toInt ≤ (i5 7437).toInt → (i5 7437).toInt ≤ (i5 7429).toInt → ((i5 7439).toInt - (i5 7437).toInt) ≤ ((i 7439).toInt - (i 7437).toInt) → (i 7439).toInt ≤ (i5 7439).toInt → ((i 7437).toInt + 1) ≤ (i5 7437).toInt → rGb t nn (rP6 t nn (rO t nn n)) 124 6 (i5 7437, i5 7439, a5 127) (rBin t nn (rP6 t nn (rO t nn n)) 124 6 (i 7437, i 7439, a 127)) → (((i5 7429).toInt - (i5 7437).toInt)).toNat < nz → ko (6 * n + 15) (mi_h157, mi_c157) P (9, [(0, .ref 116)], [], (0, 0), ks i5 a5 q5 r5) := by
      intro nz
      induction nz with
      | zero =>
        intro _ _ _ _ _ _ _ _ _ _ _ _ hm
        exact absurd hm (Nat.not_lt_zero _)
      | succ nz ih5 =>
        intro i5 a5 q5 r5 hL5 p5_0 p5_1 p5_2 p5_3 p5_4 p5_5 O5_0 hm5
        have efi5_7429 : (i5 7429).toInt = (ig2 7429).toInt := hL5.ti 7429 rfl
        refine ft_go mi_k157 2 12 [(0, .ref 116)] [.int 124, .ref 116] i5 a5 q5 r5 (by rfl) ?_
        refine ko_callI mi_k157.1 (pc := 12) (ls := [(0, .ref 116)]) (st := [.int 124, .ref 116]) (h := ks i5 a5 q5 r5) (i := (.invokevirtual 187, 3, 148, 0, 9, 0, 407)) (mi_k157.2 _ _ (by rfl)) (ft_invS mi_pq148 (by rfl)) (cy := mi_c148) mi_pq148 rfl (ke148_116 hL5.I hL5.R 124 (oq355 koq124) t nn (((hL5.fa 119 rfl).trans (kg2.fa 119 rfl)).trans hT) (((hL5.fi 7429 rfl).trans (kg2.fi 7429 rfl)).trans hN) hX) (kj_d3 (n := n) (c := 3) (o1 := 15) (by decide)) ?_
        intro vg6 ig6 ag6 qg6 rg6 kg6 hg6
        have hGg6 := kG_call hL5 kg6 (by decide +kernel)
        obtain ⟨hg6, og6⟩ := hg6
        have z7 : (((vg6.toInt = 1) ∧ ((ig6 7437).toInt = ((i5 7437).toInt + 1)) ∧ ((i5 7437).toInt < (i5 7429).toInt) ∧ ((cHr t nn (i5 7437) 0).toInt = (124 : Int32).toInt)) ∨ ((vg6.toInt = 0) ∧ ((ig6 7437).toInt = (i5 7437).toInt))) ∧ (((vg6.toInt = 0) → ((cHr t nn (i5 7437) 0).toInt ≠ (124 : Int32).toInt))) := hg6
        have q8 : ((ig6 7437).toInt = (i5 7437).toInt → (cHr t nn (ig6 7437) 0).toInt = (cHr t nn (i5 7437) 0).toInt) := fun h => congrArg Int32.toInt (kHr_c (t := t) (n := nn) (kj_v h) rfl)
        refine ft_if mi_k157 (vg6 == 0) 37 18 [(0, .ref 116)] [] (by rfl) (fun c => ?_) (fun c => ?_)
        ·
          have c9 : vg6.toInt = (0 : Int32).toInt := kd_eq c; clear c
          have hG10 := kG_call hGg2 hGg6 (by decide +kernel)
          refine ft_go mi_k157 1 38 [(0, .ref 116)] [.int 1] ig6 ag6 qg6 rg6 (by rfl) ?_
          have efig6_7438 : (ig6 7438).toInt = (i5 7438).toInt := kg6.ti 7438 rfl
          have efig6_7429 : (ig6 7429).toInt = (i5 7429).toInt := kg6.ti 7429 rfl
          have efig6_7439 : (ig6 7439).toInt = (i5 7439).toInt := kg6.ti 7439 rfl
          exact ft_ret mi_k157 (by rfl) (hP 1 _ _ _ _ hG10 ⟨(oq369 c9 efig6_7429 efig6_7438 efig6_7439 p5_0 p5_2 p5_3 p5_4 p5_5 z7.1 koq0 koq124 koq1), (Eq.trans (rGb_out O5_0 (tTkR og6 (kT2 (kg6.fi 7439 rfl) (kg6.fa 127 rfl))) (oq145 c9 koq0) (rTk_no (tTkR og6 (kT2 (kg6.fi 7439 rfl) (kg6.fa 127 rfl))) (oq145 c9 koq0)) rfl) rE_bin)⟩)
        ·
          have c11 : vg6.toInt ≠ (0 : Int32).toInt := kd_eqF c; clear c
          refine ft_go mi_k157 1 19 [(0, .ref 116)] [.ref 116] ig6 ag6 qg6 rg6 (by rfl) ?_
          have efig6_7438 : (ig6 7438).toInt = (i5 7438).toInt := kg6.ti 7438 rfl
          have efig6_7439 : (ig6 7439).toInt = (i5 7439).toInt := kg6.ti 7439 rfl
          have efig6_7429 : (ig6 7429).toInt = (i5 7429).toInt := kg6.ti 7429 rfl
          refine ko_callI mi_k157.1 (pc := 19) (ls := [(0, .ref 116)]) (st := [.ref 116]) (h := ks ig6 ag6 qg6 rg6) (i := (.invokevirtual 205, 3, 156, 0, 9, 0, 398)) (mi_k157.2 _ _ (by rfl)) (ft_invS mi_pq156 (by rfl)) (cy := mi_c156) mi_pq156 rfl (h156 _ _ _ _ hGg6.I hGg6.R (oq254 efig6_7438 hp0 p5_0) (oq357 efig6_7439 hp1 p5_3 z7.1 koq124) (oq358 efig6_7429 p5_2 z7.1 koq124) t nn ((((kg6.fa 119 rfl).trans (hL5.fa 119 rfl)).trans (kg2.fa 119 rfl)).trans hT) (((kg6.fi 7429 rfl).trans ((hL5.fi 7429 rfl).trans (kg2.fi 7429 rfl))).trans hN) hX) (kj_d1 (n := n) (o := 14) (o1 := 15) (by decide)) ?_
          intro vg12 ig12 ag12 qg12 rg12 kg12 hg12
          have hGg12 := kG_call hGg6 kg12 (by decide +kernel)
          obtain ⟨hg12, og12⟩ := hg12
          have fig12_7437 : ((0 : Int) ≤ (ig12 7437).toInt) ∧ ((ig12 7437).toInt ≤ 120) := hGg12.I.1 7437
          have efig12_7429 : (ig12 7429).toInt = (ig6 7429).toInt := kg12.ti 7429 rfl
          have fig12_7439 : ((0 : Int) ≤ (ig12 7439).toInt) ∧ ((ig12 7439).toInt ≤ 200) := hGg12.I.1 7439
          have z13 : ((ig12 7438).toInt = (ig6 7438).toInt) ∧ ((ig6 7437).toInt ≤ (ig12 7437).toInt) ∧ ((ig12 7437).toInt ≤ (ig12 7429).toInt) ∧ (((ig12 7439).toInt - (ig12 7437).toInt) ≤ ((ig6 7439).toInt - (ig6 7437).toInt)) ∧ ((ig6 7439).toInt ≤ (ig12 7439).toInt) ∧ ((0 : Int) ≤ vg12.toInt) ∧ (vg12.toInt ≤ 1) ∧ (((vg12.toInt = 1) → (((ig6 7437).toInt + 1) ≤ (ig12 7437).toInt))) := hg12
          refine ft_if mi_k157 (vg12 != 0) 27 25 [(0, .ref 116)] [] (by rfl) (fun c => ?_) (fun c => ?_)
          ·
            have c14 : vg12.toInt ≠ (0 : Int32).toInt := kd_ne c; clear c
            refine ft_go mi_k157 2 30 [(0, .ref 116)] [.int 6, .ref 116] ig12 ag12 qg12 rg12 (by rfl) ?_
            refine ko_callI mi_k157.1 (pc := 30) (ls := [(0, .ref 116)]) (st := [.int 6, .ref 116]) (h := ks ig12 ag12 qg12 rg12) (i := (.invokevirtual 177, 3, 149, 0, 9, 0, 405)) (mi_k157.2 _ _ (by rfl)) (ft_invS mi_pq149 (by rfl)) (cy := mi_c149) mi_pq149 rfl (kf149_116 hGg12.I hGg12.R 6 (oq359 efig6_7439 fig12_7437.2 fig12_7439.1 hp1 p5_3 z13.2.2.2.1 z7.1 koq124)) (kj_d3 (n := n) (c := 1) (o1 := 15) (by decide)) ?_
            intro vg15 ig15 ag15 qg15 rg15 kg15 hg15
            have hGg15 := kG_call hGg12 kg15 (by decide +kernel)
            obtain ⟨hg15, og15⟩ := hg15
            have z16 : (vg15.toInt = 1) ∧ ((ig15 7439).toInt = ((ig12 7439).toInt + 1)) := hg15
            have q17 : ag15 127 = (ag12 127).set (ig12 7439).toNatClampNeg (6 : Int32) := og15.1
            have q18 : ig15 7439 = ig12 7439 + 1 := og15.2
            refine ft_go mi_k157 2 9 [(0, .ref 116)] [] ig15 ag15 qg15 rg15 (by rfl) ?_
            have efig15_7438 : (ig15 7438).toInt = (ig12 7438).toInt := kg15.ti 7438 rfl
            have efig15_7437 : (ig15 7437).toInt = (ig12 7437).toInt := kg15.ti 7437 rfl
            have efig15_7429 : (ig15 7429).toInt = (ig12 7429).toInt := kg15.ti 7429 rfl
            exact ih5 _ _ _ _ hGg15 (oq352 efig15_7438 efig6_7438 p5_0 z13.1) (oq360 efig15_7437 p5_5 z13.2.1 z7.1 koq124) (oq260 efig15_7429 efig15_7437 z13.2.2.1) (oq370 c11 efig15_7437 efig6_7439 p5_3 z13.2.2.2.1 z16.2 z7.1 koq0 koq124) (oq276 efig6_7439 p5_4 z13.2.2.2.2.1 z16.2) (oq362 efig15_7437 p5_5 z13.2.1 z7.1 koq124) (rGb_again O5_0 (tTkR og6 (kT2 (kg6.fi 7439 rfl) (kg6.fa 127 rfl))) (oq363 c11 z7.1 koq0 koq124) (oq364 c11 efi5_7429 efig12_7429 efig2_7429 efig6_7429 hn1 z13.2.1 z13.2.2.1 z7.1 koq0 koq124) og12 (oq151 c14 z13.2.2.2.2.2.1 koq0) (tCod og15.1 og15.2 (kg15.fi 7437 rfl)) (oq365 c11 efig15_7437 z13.2.1 z7.1 koq0 koq124)) (kj_meas (oq366 c11 efig12_7429 efig15_7429 efig15_7437 efig6_7429 z13.2.1 z7.1 koq0 koq124) (oq367 c11 efig12_7429 efig6_7429 z13.2.1 z13.2.2.1 z7.1 koq0 koq124) hm5)
          ·
            have c19 : vg12.toInt = (0 : Int32).toInt := kd_neF c; clear c
            have hG20 := kG_call hGg2 hGg12 (by decide +kernel)
            refine ft_go mi_k157 1 26 [(0, .ref 116)] [.int 0] ig12 ag12 qg12 rg12 (by rfl) ?_
            exact ft_ret mi_k157 (by rfl) (hP 0 _ _ _ _ hG20 ⟨(oq371 efig6_7438 efig6_7439 p5_0 p5_3 p5_4 p5_5 z13.1 z13.2.1 z13.2.2.1 z13.2.2.2.1 z13.2.2.2.2.1 z7.1 koq124 koq0), (Eq.trans (rGb_no O5_0 (tTkR og6 (kT2 (kg6.fi 7439 rfl) (kg6.fa 127 rfl))) (oq363 c11 z7.1 koq0 koq124) (oq364 c11 efi5_7429 efig12_7429 efig2_7429 efig6_7429 hn1 z13.2.1 z13.2.2.1 z7.1 koq0 koq124) og12 (oq143 c19 z13.2.2.2.2.2.1 koq0) rfl) rE_bin)⟩)
    exact lp5 _ _ _ _ _ (kG_self _ hGg2.I hGg2.R) (oq208 z3.1) (oq222 z3.2.1) (oq222 z3.2.2.1) (oq287 z3.2.2.2.1) (oq222 z3.2.2.2.2.1) (oq288 c4 z3.2.2.2.2.2.1 z3.2.2.2.2.2.2.1 z3.2.2.2.2.2.2.2 koq0) (rGb_begin og2 (oq151 c4 z3.2.2.2.2.2.1 koq0) (oq2 fig2_7437.1)) (Nat.lt_succ_self _)
  ·
    have c21 : vg2.toInt = (0 : Int32).toInt := kd_neF c; clear c
    refine ft_go mi_k157 1 8 [(0, .ref 116)] [.int 0] ig2 ag2 qg2 rg2 (by rfl) ?_
    exact ft_ret mi_k157 (by rfl) (hP 0 _ _ _ _ hGg2 ⟨(oq289 z3.1 z3.2.1 z3.2.2.1 z3.2.2.2.1 z3.2.2.2.2.1 koq0), (Eq.trans (rBi_no og2 (oq143 c21 z3.2.2.2.2.2.1 koq0) rfl) rE_bin)⟩)
theorem kMallQ : ∀ n : Nat, kMQ_157 n ∧ kMQ_152 n
  | 0 => by
    have ih : ∀ m, 0 = m + 1 → kMQ_157 m ∧ kMQ_152 m := fun m h => by omega
    have h152 := kMsQ_152 0  ih
    have h153 := kMsQ_153 0 h152
    have h154 := kMsQ_154 0 h152 h153
    have h155 := kMsQ_155 0 h152 h153 h154
    have h156 := kMsQ_156 0 h152 h153 h154 h155
    have h157 := kMsQ_157 0 h152 h153 h154 h155 h156
    exact ⟨h157, h152⟩
  | n + 1 => by
    have ih : ∀ m, n + 1 = m + 1 → kMQ_157 m ∧ kMQ_152 m := fun m h => by
      have e : n = m := by omega
      subst e
      exact kMallQ n
    have h152 := kMsQ_152 (n + 1)  ih
    have h153 := kMsQ_153 (n + 1) h152
    have h154 := kMsQ_154 (n + 1) h152 h153
    have h155 := kMsQ_155 (n + 1) h152 h153 h154
    have h156 := kMsQ_156 (n + 1) h152 h153 h154 h155
    have h157 := kMsQ_157 (n + 1) h152 h153 h154 h155 h156
    exact ⟨h157, h152⟩
