set_option maxRecDepth 100000 in
theorem kMsQ_153 (n : Nat) (h152 : kMQ_152 n) : kMQ_153 n := by
  intro i a q r hI hr hp0 hp1 hp2 t nn hT hN hX
  have hG := kG_self wQ hI hr
  refine km_ofI (q := (mi_h153, mi_c153)) rfl (by decide) (Nat.le_of_ble_eq_true rfl) ?_
  intro P hP
  have fi_7439 : ((0 : Int) ≤ (i 7439).toInt) ∧ ((i 7439).toInt ≤ 200) := hG.I.1 7439
  have fi_7437 : ((0 : Int) ≤ (i 7437).toInt) ∧ ((i 7437).toInt ≤ 120) := hG.I.1 7437
  have fi_7429 : ((0 : Int) ≤ (i 7429).toInt) ∧ ((i 7429).toInt ≤ 120) := hG.I.1 7429
  have hn0 : (0 : Int) ≤ (n : Int) := Int.natCast_nonneg n
  have hn1 : (i 7429).toInt = nn.toInt := congrArg Int32.toInt hN
  refine ft_go mi_k153 1 1 [(0, .ref 116)] [.ref 116] i a q r (by rfl) ?_
  refine ko_callI mi_k153.1 (pc := 1) (ls := [(0, .ref 116)]) (st := [.ref 116]) (h := ks i a q r) (i := (.invokevirtual 190, 3, 152, 0, 9, 0, 402)) (mi_k153.2 _ _ (by rfl)) (ft_invS mi_pq152 (by rfl)) (cy := mi_c152) mi_pq152 rfl (h152 _ _ _ _ hG.I hG.R (oq246 hp0) (oq222 hp1) (oq222 hp2) t nn hT hN hX) (kj_d1 (n := n) (o := 10) (o1 := 11) (by decide)) ?_
  intro vg2 ig2 ag2 qg2 rg2 kg2 hg2
  have hGg2 := kG_call hG kg2 (by decide +kernel)
  obtain ⟨hg2, og2⟩ := hg2
  have fig2_7437 : ((0 : Int) ≤ (ig2 7437).toInt) ∧ ((ig2 7437).toInt ≤ 120) := hGg2.I.1 7437
  have fig2_7429 : ((0 : Int) ≤ (ig2 7429).toInt) ∧ ((ig2 7429).toInt ≤ 120) := hGg2.I.1 7429
  have efig2_7429 : (ig2 7429).toInt = (i 7429).toInt := kg2.ti 7429 rfl
  have fig2_7439 : ((0 : Int) ≤ (ig2 7439).toInt) ∧ ((ig2 7439).toInt ≤ 200) := hGg2.I.1 7439
  have z3 : ((ig2 7438).toInt = (i 7438).toInt) ∧ ((i 7437).toInt ≤ (ig2 7437).toInt) ∧ ((ig2 7437).toInt ≤ (ig2 7429).toInt) ∧ (((ig2 7439).toInt - (ig2 7437).toInt) ≤ ((i 7439).toInt - (i 7437).toInt)) ∧ ((i 7439).toInt ≤ (ig2 7439).toInt) ∧ ((0 : Int) ≤ vg2.toInt) ∧ (vg2.toInt ≤ 1) ∧ (((vg2.toInt = 1) → (((i 7437).toInt + 1) ≤ (ig2 7437).toInt))) := hg2
  refine ft_if mi_k153 (vg2 != 0) 9 7 [(0, .ref 116)] [] (by rfl) (fun c => ?_) (fun c => ?_)
  ·
    have c4 : vg2.toInt ≠ (0 : Int32).toInt := kd_ne c; clear c
    have lp5 : ∀ (nz : Nat) (i5 : Nat → Int32) (a5 : Nat → List Int32) (q5 : Nat → List Int64) (r5 : Nat → Nat), kG yw153_116_L9 ig2 ag2 qg2 rg2 i5 a5 q5 r5 → (i5 7438).toInt = (i 7438).toInt → (i 7437).toInt ≤ (i5 7437).toInt → (i5 7437).toInt ≤ (i5 7429).toInt → ((i5 7439).toInt - (i5 7437).toInt) ≤ ((i 7439).toInt - (i 7437).toInt) → (i 7439).toInt ≤ (i5 7439).toInt → ((i 7437).toInt + 1) ≤ (i5 7437).toInt → rGo t nn (rO t nn n) opMul (i5 7437, i5 7439, a5 127) (rMul t nn (rO t nn n) opMul (i 7437, i 7439, a 127)) → (((i5 7429).toInt - (i5 7437).toInt)).toNat < nz → ko (6 * n + 11) (mi_h153, mi_c153) P (9, [(0, .ref 116)], [], (0, 0), ks i5 a5 q5 r5) := by
      intro nz
      induction nz with
      | zero =>
        intro _ _ _ _ _ _ _ _ _ _ _ _ hm
        exact absurd hm (Nat.not_lt_zero _)
      | succ nz ih5 =>
        intro i5 a5 q5 r5 hL5 p5_0 p5_1 p5_2 p5_3 p5_4 p5_5 O5_0 hm5
        have fi5_7437 : ((0 : Int) ≤ (i5 7437).toInt) ∧ ((i5 7437).toInt ≤ 120) := hL5.I.1 7437
        have fi5_7429 : ((0 : Int) ≤ (i5 7429).toInt) ∧ ((i5 7429).toInt ≤ 120) := hL5.I.1 7429
        have efi5_7429 : (i5 7429).toInt = (ig2 7429).toInt := hL5.ti 7429 rfl
        have fi5_7439 : ((0 : Int) ≤ (i5 7439).toInt) ∧ ((i5 7439).toInt ≤ 200) := hL5.I.1 7439
        refine ft_go mi_k153 1 10 [(0, .ref 116)] [.ref 116] i5 a5 q5 r5 (by rfl) ?_
        refine ko_callPI mi_k153.1 (pc := 10) (ls := [(0, .ref 116)]) (st := [.ref 116]) (h := ks i5 a5 q5 r5) (i := (.invokevirtual 166, 3, 147, 0, 9, 0, 404)) (mi_k153.2 _ _ (by rfl)) (ft_invS mi_pq147 (by rfl)) (cy := mi_c147) mi_pq147 rfl (ke147_116 hL5.I hL5.R t nn (((hL5.fa 119 rfl).trans (kg2.fa 119 rfl)).trans hT) (((hL5.fi 7429 rfl).trans (kg2.fi 7429 rfl)).trans hN) hX) (kj_d3 (n := n) (c := 1) (o1 := 11) (by decide)) ?_
        intro vg6 hg6
        obtain ⟨hg6, og6⟩ := hg6
        have z7 : (((-1) : Int) ≤ vg6.toInt) ∧ (vg6.toInt ≤ 255) ∧ ((vg6.toInt = (-1)) ∨ ((i5 7437).toInt < (i5 7429).toInt)) := hg6
        have q8 : vg6 = cHr t nn (i5 7437) 0 := og6
        have hv9 : vg6.toInt = (cHr t nn (i5 7437) 0).toInt := congrArg Int32.toInt og6
        refine ft_go mi_k153 1 15 [(0, .ref 116)] [.int 42, .int vg6] i5 a5 q5 r5 (by rfl) ?_
        refine ft_if mi_k153 (vg6 != 42) 23 18 [(0, .ref 116)] [] (by rfl) (fun c => ?_) (fun c => ?_)
        ·
          have c10 : vg6.toInt ≠ (42 : Int32).toInt := kd_ne c; clear c
          refine ft_go mi_k153 1 24 [(0, .ref 116)] [.ref 116] i5 a5 q5 r5 (by rfl) ?_
          refine ko_callPI mi_k153.1 (pc := 24) (ls := [(0, .ref 116)]) (st := [.ref 116]) (h := ks i5 a5 q5 r5) (i := (.invokevirtual 166, 3, 147, 0, 9, 0, 404)) (mi_k153.2 _ _ (by rfl)) (ft_invS mi_pq147 (by rfl)) (cy := mi_c147) mi_pq147 rfl (ke147_116 hL5.I hL5.R t nn (((hL5.fa 119 rfl).trans (kg2.fa 119 rfl)).trans hT) (((hL5.fi 7429 rfl).trans (kg2.fi 7429 rfl)).trans hN) hX) (kj_d3 (n := n) (c := 1) (o1 := 11) (by decide)) ?_
          intro vg11 hg11
          obtain ⟨hg11, og11⟩ := hg11
          have z12 : (((-1) : Int) ≤ vg11.toInt) ∧ (vg11.toInt ≤ 255) ∧ ((vg11.toInt = (-1)) ∨ ((i5 7437).toInt < (i5 7429).toInt)) := hg11
          have q13 : vg11 = cHr t nn (i5 7437) 0 := og11
          have hv14 : vg11.toInt = (cHr t nn (i5 7437) 0).toInt := congrArg Int32.toInt og11
          refine ft_go mi_k153 1 29 [(0, .ref 116)] [.int 47, .int vg11] i5 a5 q5 r5 (by rfl) ?_
          refine ft_if mi_k153 (vg11 != 47) 37 32 [(0, .ref 116)] [] (by rfl) (fun c => ?_) (fun c => ?_)
          ·
            have c15 : vg11.toInt ≠ (47 : Int32).toInt := kd_ne c; clear c
            refine ft_go mi_k153 1 38 [(0, .ref 116)] [.ref 116] i5 a5 q5 r5 (by rfl) ?_
            refine ko_callPI mi_k153.1 (pc := 38) (ls := [(0, .ref 116)]) (st := [.ref 116]) (h := ks i5 a5 q5 r5) (i := (.invokevirtual 166, 3, 147, 0, 9, 0, 404)) (mi_k153.2 _ _ (by rfl)) (ft_invS mi_pq147 (by rfl)) (cy := mi_c147) mi_pq147 rfl (ke147_116 hL5.I hL5.R t nn (((hL5.fa 119 rfl).trans (kg2.fa 119 rfl)).trans hT) (((hL5.fi 7429 rfl).trans (kg2.fi 7429 rfl)).trans hN) hX) (kj_d3 (n := n) (c := 1) (o1 := 11) (by decide)) ?_
            intro vg16 hg16
            obtain ⟨hg16, og16⟩ := hg16
            have z17 : (((-1) : Int) ≤ vg16.toInt) ∧ (vg16.toInt ≤ 255) ∧ ((vg16.toInt = (-1)) ∨ ((i5 7437).toInt < (i5 7429).toInt)) := hg16
            have q18 : vg16 = cHr t nn (i5 7437) 0 := og16
            have hv19 : vg16.toInt = (cHr t nn (i5 7437) 0).toInt := congrArg Int32.toInt og16
            refine ft_go mi_k153 1 43 [(0, .ref 116)] [.int 37, .int vg16] i5 a5 q5 r5 (by rfl) ?_
            refine ft_if mi_k153 (vg16 != 37) 51 46 [(0, .ref 116)] [] (by rfl) (fun c => ?_) (fun c => ?_)
            ·
              have c20 : vg16.toInt ≠ (37 : Int32).toInt := kd_ne c; clear c
              refine ft_go mi_k153 4 57 [(1, .int (-1)), (0, .ref 116)] [] i5 a5 q5 r5 (by rfl) ?_
              have hG21 := kG_call hGg2 hL5 (by decide +kernel)
              refine ft_go mi_k153 1 58 [(1, .int (-1)), (0, .ref 116)] [.int 1] i5 a5 q5 r5 (by rfl) ?_
              exact ft_ret mi_k153 (by rfl) (hP 1 _ _ _ _ hG21 ⟨(oq290 p5_0 p5_2 p5_3 p5_4 p5_5 koq1), (rGo_out O5_0 (opMul_of (x := (cHr t nn (i5 7437) 0)) (g := (-1)) (Or.inr (Or.inr (Or.inr (⟨(oq248 c10 hv9 koq42), (oq249 c15 hv14 koq47), (oq250 c20 hv19 koq37), (oq251 koqm1)⟩))))) (oq252 koqm1) rfl)⟩)
            ·
              have c22 : vg16.toInt = (37 : Int32).toInt := kd_neF c; clear c
              have s23 : ((i5 7437) + 1).toInt = (i5 7437).toInt + (1 : Int32).toInt := kd_add (oq115 fi5_7437.1 koq1) (oq116 fi5_7437.2 koq1)
              have hJ24 := kG_i hL5 7437 rfl (v := ((i5 7437) + 1)) ⟨(oq117 fi5_7437.1 s23 koq1), (oq253 c22 fi5_7429.2 hv19 hv9 s23 z7.2.2 koq37 koq1)⟩
              refine ft_go mi_k153 12 70 [(1, .int 15), (0, .ref 116)] [.ref 116] (ku i5 7437 ((i5 7437) + 1)) a5 q5 r5 (by rfl) ?_
              refine ko_callI mi_k153.1 (pc := 70) (ls := [(1, .int 15), (0, .ref 116)]) (st := [.ref 116]) (h := ks (ku i5 7437 ((i5 7437) + 1)) a5 q5 r5) (i := (.invokevirtual 190, 3, 152, 0, 9, 0, 402)) (mi_k153.2 _ _ (by rfl)) (ft_invS mi_pq152 (by rfl)) (cy := mi_c152) mi_pq152 rfl (h152 _ _ _ _ hJ24.I hJ24.R (oq291 hp0 p5_0) (oq255 hp1 p5_3 s23 koq1) (oq256 c22 hv19 hv9 s23 z7.2.2 koq37 koq1) t nn (((hL5.fa 119 rfl).trans (kg2.fa 119 rfl)).trans hT) (((hL5.fi 7429 rfl).trans (kg2.fi 7429 rfl)).trans hN) hX) (kj_d1 (n := n) (o := 10) (o1 := 11) (by decide)) ?_
              intro vg25 ig25 ag25 qg25 rg25 kg25 hg25
              have hGg25 := kG_call hJ24 kg25 (by decide +kernel)
              obtain ⟨hg25, og25⟩ := hg25
              have fig25_7437 : ((0 : Int) ≤ (ig25 7437).toInt) ∧ ((ig25 7437).toInt ≤ 120) := hGg25.I.1 7437
              have fig25_7429 : ((0 : Int) ≤ (ig25 7429).toInt) ∧ ((ig25 7429).toInt ≤ 120) := hGg25.I.1 7429
              have efig25_7429 : (ig25 7429).toInt = (i5 7429).toInt := kg25.ti 7429 rfl
              have fig25_7439 : ((0 : Int) ≤ (ig25 7439).toInt) ∧ ((ig25 7439).toInt ≤ 200) := hGg25.I.1 7439
              have z26 : ((ig25 7438).toInt = (i5 7438).toInt) ∧ (((i5 7437) + 1).toInt ≤ (ig25 7437).toInt) ∧ ((ig25 7437).toInt ≤ (ig25 7429).toInt) ∧ (((ig25 7439).toInt - (ig25 7437).toInt) ≤ ((i5 7439).toInt - ((i5 7437) + 1).toInt)) ∧ ((i5 7439).toInt ≤ (ig25 7439).toInt) ∧ ((0 : Int) ≤ vg25.toInt) ∧ (vg25.toInt ≤ 1) ∧ (((vg25.toInt = 1) → ((((i5 7437) + 1).toInt + 1) ≤ (ig25 7437).toInt))) := hg25
              refine ft_if mi_k153 (vg25 != 0) 78 76 [(1, .int 15), (0, .ref 116)] [] (by rfl) (fun c => ?_) (fun c => ?_)
              ·
                have c27 : vg25.toInt ≠ (0 : Int32).toInt := kd_ne c; clear c
                refine ft_go mi_k153 2 80 [(1, .int 15), (0, .ref 116)] [.int 15, .ref 116] ig25 ag25 qg25 rg25 (by rfl) ?_
                refine ko_callI mi_k153.1 (pc := 80) (ls := [(1, .int 15), (0, .ref 116)]) (st := [.int 15, .ref 116]) (h := ks ig25 ag25 qg25 rg25) (i := (.invokevirtual 177, 3, 149, 0, 9, 0, 405)) (mi_k153.2 _ _ (by rfl)) (ft_invS mi_pq149 (by rfl)) (cy := mi_c149) mi_pq149 rfl (kf149_116 hGg25.I hGg25.R 15 (oq257 fig25_7437.2 fig25_7439.1 hp1 p5_3 s23 z26.2.2.2.1 koq1)) (kj_d3 (n := n) (c := 1) (o1 := 11) (by decide)) ?_
                intro vg28 ig28 ag28 qg28 rg28 kg28 hg28
                have hGg28 := kG_call hGg25 kg28 (by decide +kernel)
                obtain ⟨hg28, og28⟩ := hg28
                have fig28_7439 : ((0 : Int) ≤ (ig28 7439).toInt) ∧ ((ig28 7439).toInt ≤ 200) := hGg28.I.1 7439
                have z29 : (vg28.toInt = 1) ∧ ((ig28 7439).toInt = ((ig25 7439).toInt + 1)) := hg28
                have q30 : ag28 127 = (ag25 127).set (ig25 7439).toNatClampNeg (15 : Int32) := og28.1
                have q31 : ig28 7439 = ig25 7439 + 1 := og28.2
                refine ft_go mi_k153 2 9 [(1, .int 15), (0, .ref 116)] [] ig28 ag28 qg28 rg28 (by rfl) ?_
                refine ko_perm [(0, .ref 116)] (List.forall_mem_cons.mpr ⟨(List.Mem.tail _ (List.Mem.head _)), (fun _ h => absurd h List.not_mem_nil)⟩) ?_
                have efig28_7438 : (ig28 7438).toInt = (ig25 7438).toInt := kg28.ti 7438 rfl
                have fig28_7437 : ((0 : Int) ≤ (ig28 7437).toInt) ∧ ((ig28 7437).toInt ≤ 120) := hGg28.I.1 7437
                have efig28_7437 : (ig28 7437).toInt = (ig25 7437).toInt := kg28.ti 7437 rfl
                have fig28_7429 : ((0 : Int) ≤ (ig28 7429).toInt) ∧ ((ig28 7429).toInt ≤ 120) := hGg28.I.1 7429
                have efig28_7429 : (ig28 7429).toInt = (ig25 7429).toInt := kg28.ti 7429 rfl
                exact ih5 _ _ _ _ hGg28 (oq292 efig28_7438 p5_0 z26.1) (oq259 efig28_7437 p5_5 s23 z26.2.1 koq1) (oq260 efig28_7429 efig28_7437 z26.2.2.1) (oq293 efig28_7437 p5_3 s23 z26.2.2.2.1 z29.2 koq1) (oq294 p5_4 z26.2.2.2.2.1 z29.2) (oq263 efig28_7437 p5_5 s23 z26.2.1 koq1) (rGo_again O5_0 (opMul_of (x := (cHr t nn (i5 7437) 0)) (g := 15) (Or.inr (Or.inr (Or.inl ⟨(oq264 c22 hv19 koq37), (oq265 koq15)⟩)))) (oq266 koq15) (oq267 efi5_7429 efig25_7429 efig2_7429 hn1 s23 z26.2.1 z26.2.2.1 koq1) og25 (oq151 c27 z26.2.2.2.2.2.1 koq0) (tCod og28.1 og28.2 (kg28.fi 7437 rfl)) (oq268 efig28_7437 s23 z26.2.1 koq1)) (kj_meas (oq269 efig25_7429 efig28_7429 efig28_7437 s23 z26.2.1 koq1) (oq270 efig25_7429 s23 z26.2.1 z26.2.2.1 koq1) hm5)
              ·
                have c32 : vg25.toInt = (0 : Int32).toInt := kd_neF c; clear c
                have hG33 := kG_call hGg2 hGg25 (by decide +kernel)
                refine ft_go mi_k153 1 77 [(1, .int 15), (0, .ref 116)] [.int 0] ig25 ag25 qg25 rg25 (by rfl) ?_
                exact ft_ret mi_k153 (by rfl) (hP 0 _ _ _ _ hG33 ⟨(oq295 p5_0 p5_3 p5_4 p5_5 s23 z26.1 z26.2.1 z26.2.2.1 z26.2.2.2.1 z26.2.2.2.2.1 koq1 koq0), (rGo_no O5_0 (opMul_of (x := (cHr t nn (i5 7437) 0)) (g := 15) (Or.inr (Or.inr (Or.inl ⟨(oq264 c22 hv19 koq37), (oq265 koq15)⟩)))) (oq266 koq15) (oq267 efi5_7429 efig25_7429 efig2_7429 hn1 s23 z26.2.1 z26.2.2.1 koq1) og25 (oq143 c32 z26.2.2.2.2.2.1 koq0) rfl)⟩)
          ·
            have c34 : vg11.toInt = (47 : Int32).toInt := kd_neF c; clear c
            have s35 : ((i5 7437) + 1).toInt = (i5 7437).toInt + (1 : Int32).toInt := kd_add (oq115 fi5_7437.1 koq1) (oq116 fi5_7437.2 koq1)
            have hJ36 := kG_i hL5 7437 rfl (v := ((i5 7437) + 1)) ⟨(oq117 fi5_7437.1 s35 koq1), (oq272 c34 fi5_7429.2 hv14 hv9 s35 z7.2.2 koq47 koq1)⟩
            refine ft_go mi_k153 12 70 [(1, .int 14), (0, .ref 116)] [.ref 116] (ku i5 7437 ((i5 7437) + 1)) a5 q5 r5 (by rfl) ?_
            refine ko_callI mi_k153.1 (pc := 70) (ls := [(1, .int 14), (0, .ref 116)]) (st := [.ref 116]) (h := ks (ku i5 7437 ((i5 7437) + 1)) a5 q5 r5) (i := (.invokevirtual 190, 3, 152, 0, 9, 0, 402)) (mi_k153.2 _ _ (by rfl)) (ft_invS mi_pq152 (by rfl)) (cy := mi_c152) mi_pq152 rfl (h152 _ _ _ _ hJ36.I hJ36.R (oq291 hp0 p5_0) (oq255 hp1 p5_3 s35 koq1) (oq273 c34 hv14 hv9 s35 z7.2.2 koq47 koq1) t nn (((hL5.fa 119 rfl).trans (kg2.fa 119 rfl)).trans hT) (((hL5.fi 7429 rfl).trans (kg2.fi 7429 rfl)).trans hN) hX) (kj_d1 (n := n) (o := 10) (o1 := 11) (by decide)) ?_
            intro vg37 ig37 ag37 qg37 rg37 kg37 hg37
            have hGg37 := kG_call hJ36 kg37 (by decide +kernel)
            obtain ⟨hg37, og37⟩ := hg37
            have fig37_7437 : ((0 : Int) ≤ (ig37 7437).toInt) ∧ ((ig37 7437).toInt ≤ 120) := hGg37.I.1 7437
            have fig37_7429 : ((0 : Int) ≤ (ig37 7429).toInt) ∧ ((ig37 7429).toInt ≤ 120) := hGg37.I.1 7429
            have efig37_7429 : (ig37 7429).toInt = (i5 7429).toInt := kg37.ti 7429 rfl
            have fig37_7439 : ((0 : Int) ≤ (ig37 7439).toInt) ∧ ((ig37 7439).toInt ≤ 200) := hGg37.I.1 7439
            have z38 : ((ig37 7438).toInt = (i5 7438).toInt) ∧ (((i5 7437) + 1).toInt ≤ (ig37 7437).toInt) ∧ ((ig37 7437).toInt ≤ (ig37 7429).toInt) ∧ (((ig37 7439).toInt - (ig37 7437).toInt) ≤ ((i5 7439).toInt - ((i5 7437) + 1).toInt)) ∧ ((i5 7439).toInt ≤ (ig37 7439).toInt) ∧ ((0 : Int) ≤ vg37.toInt) ∧ (vg37.toInt ≤ 1) ∧ (((vg37.toInt = 1) → ((((i5 7437) + 1).toInt + 1) ≤ (ig37 7437).toInt))) := hg37
            refine ft_if mi_k153 (vg37 != 0) 78 76 [(1, .int 14), (0, .ref 116)] [] (by rfl) (fun c => ?_) (fun c => ?_)
            ·
              have c39 : vg37.toInt ≠ (0 : Int32).toInt := kd_ne c; clear c
              refine ft_go mi_k153 2 80 [(1, .int 14), (0, .ref 116)] [.int 14, .ref 116] ig37 ag37 qg37 rg37 (by rfl) ?_
              refine ko_callI mi_k153.1 (pc := 80) (ls := [(1, .int 14), (0, .ref 116)]) (st := [.int 14, .ref 116]) (h := ks ig37 ag37 qg37 rg37) (i := (.invokevirtual 177, 3, 149, 0, 9, 0, 405)) (mi_k153.2 _ _ (by rfl)) (ft_invS mi_pq149 (by rfl)) (cy := mi_c149) mi_pq149 rfl (kf149_116 hGg37.I hGg37.R 14 (oq257 fig37_7437.2 fig37_7439.1 hp1 p5_3 s35 z38.2.2.2.1 koq1)) (kj_d3 (n := n) (c := 1) (o1 := 11) (by decide)) ?_
              intro vg40 ig40 ag40 qg40 rg40 kg40 hg40
              have hGg40 := kG_call hGg37 kg40 (by decide +kernel)
              obtain ⟨hg40, og40⟩ := hg40
              have fig40_7439 : ((0 : Int) ≤ (ig40 7439).toInt) ∧ ((ig40 7439).toInt ≤ 200) := hGg40.I.1 7439
              have z41 : (vg40.toInt = 1) ∧ ((ig40 7439).toInt = ((ig37 7439).toInt + 1)) := hg40
              have q42 : ag40 127 = (ag37 127).set (ig37 7439).toNatClampNeg (14 : Int32) := og40.1
              have q43 : ig40 7439 = ig37 7439 + 1 := og40.2
              refine ft_go mi_k153 2 9 [(1, .int 14), (0, .ref 116)] [] ig40 ag40 qg40 rg40 (by rfl) ?_
              refine ko_perm [(0, .ref 116)] (List.forall_mem_cons.mpr ⟨(List.Mem.tail _ (List.Mem.head _)), (fun _ h => absurd h List.not_mem_nil)⟩) ?_
              have efig40_7438 : (ig40 7438).toInt = (ig37 7438).toInt := kg40.ti 7438 rfl
              have fig40_7437 : ((0 : Int) ≤ (ig40 7437).toInt) ∧ ((ig40 7437).toInt ≤ 120) := hGg40.I.1 7437
              have efig40_7437 : (ig40 7437).toInt = (ig37 7437).toInt := kg40.ti 7437 rfl
              have fig40_7429 : ((0 : Int) ≤ (ig40 7429).toInt) ∧ ((ig40 7429).toInt ≤ 120) := hGg40.I.1 7429
              have efig40_7429 : (ig40 7429).toInt = (ig37 7429).toInt := kg40.ti 7429 rfl
              exact ih5 _ _ _ _ hGg40 (oq292 efig40_7438 p5_0 z38.1) (oq259 efig40_7437 p5_5 s35 z38.2.1 koq1) (oq260 efig40_7429 efig40_7437 z38.2.2.1) (oq293 efig40_7437 p5_3 s35 z38.2.2.2.1 z41.2 koq1) (oq294 p5_4 z38.2.2.2.2.1 z41.2) (oq263 efig40_7437 p5_5 s35 z38.2.1 koq1) (rGo_again O5_0 (opMul_of (x := (cHr t nn (i5 7437) 0)) (g := 14) (Or.inr (Or.inl ⟨(oq277 c34 hv14 koq47), (oq278 koq14)⟩))) (oq279 koq14) (oq280 efi5_7429 efig2_7429 efig37_7429 hn1 s35 z38.2.1 z38.2.2.1 koq1) og37 (oq151 c39 z38.2.2.2.2.2.1 koq0) (tCod og40.1 og40.2 (kg40.fi 7437 rfl)) (oq268 efig40_7437 s35 z38.2.1 koq1)) (kj_meas (oq269 efig37_7429 efig40_7429 efig40_7437 s35 z38.2.1 koq1) (oq270 efig37_7429 s35 z38.2.1 z38.2.2.1 koq1) hm5)
            ·
              have c44 : vg37.toInt = (0 : Int32).toInt := kd_neF c; clear c
              have hG45 := kG_call hGg2 hGg37 (by decide +kernel)
              refine ft_go mi_k153 1 77 [(1, .int 14), (0, .ref 116)] [.int 0] ig37 ag37 qg37 rg37 (by rfl) ?_
              exact ft_ret mi_k153 (by rfl) (hP 0 _ _ _ _ hG45 ⟨(oq295 p5_0 p5_3 p5_4 p5_5 s35 z38.1 z38.2.1 z38.2.2.1 z38.2.2.2.1 z38.2.2.2.2.1 koq1 koq0), (rGo_no O5_0 (opMul_of (x := (cHr t nn (i5 7437) 0)) (g := 14) (Or.inr (Or.inl ⟨(oq277 c34 hv14 koq47), (oq278 koq14)⟩))) (oq279 koq14) (oq280 efi5_7429 efig2_7429 efig37_7429 hn1 s35 z38.2.1 z38.2.2.1 koq1) og37 (oq143 c44 z38.2.2.2.2.2.1 koq0) rfl)⟩)
        ·
          have c46 : vg6.toInt = (42 : Int32).toInt := kd_neF c; clear c
          have s47 : ((i5 7437) + 1).toInt = (i5 7437).toInt + (1 : Int32).toInt := kd_add (oq115 fi5_7437.1 koq1) (oq116 fi5_7437.2 koq1)
          have hJ48 := kG_i hL5 7437 rfl (v := ((i5 7437) + 1)) ⟨(oq117 fi5_7437.1 s47 koq1), (oq282 c46 fi5_7429.2 s47 z7.2.2 koq42 koq1)⟩
          refine ft_go mi_k153 12 70 [(1, .int 13), (0, .ref 116)] [.ref 116] (ku i5 7437 ((i5 7437) + 1)) a5 q5 r5 (by rfl) ?_
          refine ko_callI mi_k153.1 (pc := 70) (ls := [(1, .int 13), (0, .ref 116)]) (st := [.ref 116]) (h := ks (ku i5 7437 ((i5 7437) + 1)) a5 q5 r5) (i := (.invokevirtual 190, 3, 152, 0, 9, 0, 402)) (mi_k153.2 _ _ (by rfl)) (ft_invS mi_pq152 (by rfl)) (cy := mi_c152) mi_pq152 rfl (h152 _ _ _ _ hJ48.I hJ48.R (oq291 hp0 p5_0) (oq255 hp1 p5_3 s47 koq1) (oq283 c46 s47 z7.2.2 koq42 koq1) t nn (((hL5.fa 119 rfl).trans (kg2.fa 119 rfl)).trans hT) (((hL5.fi 7429 rfl).trans (kg2.fi 7429 rfl)).trans hN) hX) (kj_d1 (n := n) (o := 10) (o1 := 11) (by decide)) ?_
          intro vg49 ig49 ag49 qg49 rg49 kg49 hg49
          have hGg49 := kG_call hJ48 kg49 (by decide +kernel)
          obtain ⟨hg49, og49⟩ := hg49
          have fig49_7437 : ((0 : Int) ≤ (ig49 7437).toInt) ∧ ((ig49 7437).toInt ≤ 120) := hGg49.I.1 7437
          have fig49_7429 : ((0 : Int) ≤ (ig49 7429).toInt) ∧ ((ig49 7429).toInt ≤ 120) := hGg49.I.1 7429
          have efig49_7429 : (ig49 7429).toInt = (i5 7429).toInt := kg49.ti 7429 rfl
          have fig49_7439 : ((0 : Int) ≤ (ig49 7439).toInt) ∧ ((ig49 7439).toInt ≤ 200) := hGg49.I.1 7439
          have z50 : ((ig49 7438).toInt = (i5 7438).toInt) ∧ (((i5 7437) + 1).toInt ≤ (ig49 7437).toInt) ∧ ((ig49 7437).toInt ≤ (ig49 7429).toInt) ∧ (((ig49 7439).toInt - (ig49 7437).toInt) ≤ ((i5 7439).toInt - ((i5 7437) + 1).toInt)) ∧ ((i5 7439).toInt ≤ (ig49 7439).toInt) ∧ ((0 : Int) ≤ vg49.toInt) ∧ (vg49.toInt ≤ 1) ∧ (((vg49.toInt = 1) → ((((i5 7437) + 1).toInt + 1) ≤ (ig49 7437).toInt))) := hg49
          refine ft_if mi_k153 (vg49 != 0) 78 76 [(1, .int 13), (0, .ref 116)] [] (by rfl) (fun c => ?_) (fun c => ?_)
          ·
            have c51 : vg49.toInt ≠ (0 : Int32).toInt := kd_ne c; clear c
            refine ft_go mi_k153 2 80 [(1, .int 13), (0, .ref 116)] [.int 13, .ref 116] ig49 ag49 qg49 rg49 (by rfl) ?_
            refine ko_callI mi_k153.1 (pc := 80) (ls := [(1, .int 13), (0, .ref 116)]) (st := [.int 13, .ref 116]) (h := ks ig49 ag49 qg49 rg49) (i := (.invokevirtual 177, 3, 149, 0, 9, 0, 405)) (mi_k153.2 _ _ (by rfl)) (ft_invS mi_pq149 (by rfl)) (cy := mi_c149) mi_pq149 rfl (kf149_116 hGg49.I hGg49.R 13 (oq257 fig49_7437.2 fig49_7439.1 hp1 p5_3 s47 z50.2.2.2.1 koq1)) (kj_d3 (n := n) (c := 1) (o1 := 11) (by decide)) ?_
            intro vg52 ig52 ag52 qg52 rg52 kg52 hg52
            have hGg52 := kG_call hGg49 kg52 (by decide +kernel)
            obtain ⟨hg52, og52⟩ := hg52
            have fig52_7439 : ((0 : Int) ≤ (ig52 7439).toInt) ∧ ((ig52 7439).toInt ≤ 200) := hGg52.I.1 7439
            have z53 : (vg52.toInt = 1) ∧ ((ig52 7439).toInt = ((ig49 7439).toInt + 1)) := hg52
            have q54 : ag52 127 = (ag49 127).set (ig49 7439).toNatClampNeg (13 : Int32) := og52.1
            have q55 : ig52 7439 = ig49 7439 + 1 := og52.2
            refine ft_go mi_k153 2 9 [(1, .int 13), (0, .ref 116)] [] ig52 ag52 qg52 rg52 (by rfl) ?_
            refine ko_perm [(0, .ref 116)] (List.forall_mem_cons.mpr ⟨(List.Mem.tail _ (List.Mem.head _)), (fun _ h => absurd h List.not_mem_nil)⟩) ?_
            have efig52_7438 : (ig52 7438).toInt = (ig49 7438).toInt := kg52.ti 7438 rfl
            have fig52_7437 : ((0 : Int) ≤ (ig52 7437).toInt) ∧ ((ig52 7437).toInt ≤ 120) := hGg52.I.1 7437
            have efig52_7437 : (ig52 7437).toInt = (ig49 7437).toInt := kg52.ti 7437 rfl
            have fig52_7429 : ((0 : Int) ≤ (ig52 7429).toInt) ∧ ((ig52 7429).toInt ≤ 120) := hGg52.I.1 7429
            have efig52_7429 : (ig52 7429).toInt = (ig49 7429).toInt := kg52.ti 7429 rfl
            exact ih5 _ _ _ _ hGg52 (oq292 efig52_7438 p5_0 z50.1) (oq259 efig52_7437 p5_5 s47 z50.2.1 koq1) (oq260 efig52_7429 efig52_7437 z50.2.2.1) (oq293 efig52_7437 p5_3 s47 z50.2.2.2.1 z53.2 koq1) (oq294 p5_4 z50.2.2.2.2.1 z53.2) (oq263 efig52_7437 p5_5 s47 z50.2.1 koq1) (rGo_again O5_0 (opMul_of (x := (cHr t nn (i5 7437) 0)) (g := 13) (Or.inl ⟨(oq284 c46 hv9 koq42), (oq285 koq13)⟩)) (oq286 koq13) (oq280 efi5_7429 efig2_7429 efig49_7429 hn1 s47 z50.2.1 z50.2.2.1 koq1) og49 (oq151 c51 z50.2.2.2.2.2.1 koq0) (tCod og52.1 og52.2 (kg52.fi 7437 rfl)) (oq268 efig52_7437 s47 z50.2.1 koq1)) (kj_meas (oq269 efig49_7429 efig52_7429 efig52_7437 s47 z50.2.1 koq1) (oq270 efig49_7429 s47 z50.2.1 z50.2.2.1 koq1) hm5)
          ·
            have c56 : vg49.toInt = (0 : Int32).toInt := kd_neF c; clear c
            have hG57 := kG_call hGg2 hGg49 (by decide +kernel)
            refine ft_go mi_k153 1 77 [(1, .int 13), (0, .ref 116)] [.int 0] ig49 ag49 qg49 rg49 (by rfl) ?_
            exact ft_ret mi_k153 (by rfl) (hP 0 _ _ _ _ hG57 ⟨(oq295 p5_0 p5_3 p5_4 p5_5 s47 z50.1 z50.2.1 z50.2.2.1 z50.2.2.2.1 z50.2.2.2.2.1 koq1 koq0), (rGo_no O5_0 (opMul_of (x := (cHr t nn (i5 7437) 0)) (g := 13) (Or.inl ⟨(oq284 c46 hv9 koq42), (oq285 koq13)⟩)) (oq286 koq13) (oq280 efi5_7429 efig2_7429 efig49_7429 hn1 s47 z50.2.1 z50.2.2.1 koq1) og49 (oq143 c56 z50.2.2.2.2.2.1 koq0) rfl)⟩)
    exact lp5 _ _ _ _ _ (kG_self _ hGg2.I hGg2.R) (oq208 z3.1) (oq222 z3.2.1) (oq222 z3.2.2.1) (oq287 z3.2.2.2.1) (oq222 z3.2.2.2.2.1) (oq288 c4 z3.2.2.2.2.2.1 z3.2.2.2.2.2.2.1 z3.2.2.2.2.2.2.2 koq0) (rGo_begin og2 (oq151 c4 z3.2.2.2.2.2.1 koq0) (oq2 fig2_7437.1)) (Nat.lt_succ_self _)
  ·
    have c58 : vg2.toInt = (0 : Int32).toInt := kd_neF c; clear c
    refine ft_go mi_k153 1 8 [(0, .ref 116)] [.int 0] ig2 ag2 qg2 rg2 (by rfl) ?_
    exact ft_ret mi_k153 (by rfl) (hP 0 _ _ _ _ hGg2 ⟨(oq289 z3.1 z3.2.1 z3.2.2.1 z3.2.2.2.1 z3.2.2.2.2.1 koq0), (rMu_no og2 (oq143 c58 z3.2.2.2.2.2.1 koq0) rfl)⟩)
