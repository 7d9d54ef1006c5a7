set_option maxRecDepth 100000 in
theorem kMsQ_154 (n : Nat) (h152 : kMQ_152 n) (h153 : kMQ_153 n) : kMQ_154 n := by
  intro i a q r hI hr hp0 hp1 hp2 t nn hT hN hX
  have hG := kG_self wQ hI hr
  refine km_ofI (q := (mi_h154, mi_c154)) rfl (by decide) (Nat.le_of_ble_eq_true rfl) ?_
  intro P hP
  have fi_7439 : ((0 : Int) ≤ (i 7439).toInt) ∧ ((i 7439).toInt ≤ 200) := hG.I.1 7439
  have fi_7437 : ((0 : Int) ≤ (i 7437).toInt) ∧ ((i 7437).toInt ≤ 120) := hG.I.1 7437
  have fi_7429 : ((0 : Int) ≤ (i 7429).toInt) ∧ ((i 7429).toInt ≤ 120) := hG.I.1 7429
  have hn0 : (0 : Int) ≤ (n : Int) := Int.natCast_nonneg n
  have hn1 : (i 7429).toInt = nn.toInt := congrArg Int32.toInt hN
  refine ft_go mi_k154 1 1 [(0, .ref 116)] [.ref 116] i a q r (by rfl) ?_
  refine ko_callI mi_k154.1 (pc := 1) (ls := [(0, .ref 116)]) (st := [.ref 116]) (h := ks i a q r) (i := (.invokevirtual 196, 3, 153, 0, 9, 0, 401)) (mi_k154.2 _ _ (by rfl)) (ft_invS mi_pq153 (by rfl)) (cy := mi_c153) mi_pq153 rfl (h153 _ _ _ _ hG.I hG.R (oq246 hp0) (oq222 hp1) (oq222 hp2) t nn hT hN hX) (kj_d1 (n := n) (o := 11) (o1 := 12) (by decide)) ?_
  intro vg2 ig2 ag2 qg2 rg2 kg2 hg2
  have hGg2 := kG_call hG kg2 (by decide +kernel)
  obtain ⟨hg2, og2⟩ := hg2
  have fig2_7437 : ((0 : Int) ≤ (ig2 7437).toInt) ∧ ((ig2 7437).toInt ≤ 120) := hGg2.I.1 7437
  have fig2_7429 : ((0 : Int) ≤ (ig2 7429).toInt) ∧ ((ig2 7429).toInt ≤ 120) := hGg2.I.1 7429
  have efig2_7429 : (ig2 7429).toInt = (i 7429).toInt := kg2.ti 7429 rfl
  have fig2_7439 : ((0 : Int) ≤ (ig2 7439).toInt) ∧ ((ig2 7439).toInt ≤ 200) := hGg2.I.1 7439
  have z3 : ((ig2 7438).toInt = (i 7438).toInt) ∧ ((i 7437).toInt ≤ (ig2 7437).toInt) ∧ ((ig2 7437).toInt ≤ (ig2 7429).toInt) ∧ (((ig2 7439).toInt - (ig2 7437).toInt) ≤ ((i 7439).toInt - (i 7437).toInt)) ∧ ((i 7439).toInt ≤ (ig2 7439).toInt) ∧ ((0 : Int) ≤ vg2.toInt) ∧ (vg2.toInt ≤ 1) ∧ (((vg2.toInt = 1) → (((i 7437).toInt + 1) ≤ (ig2 7437).toInt))) := hg2
  refine ft_if mi_k154 (vg2 != 0) 9 7 [(0, .ref 116)] [] (by rfl) (fun c => ?_) (fun c => ?_)
  ·
    have c4 : vg2.toInt ≠ (0 : Int32).toInt := kd_ne c; clear c
    have lp5 : ∀ (nz : Nat) (i5 : Nat → Int32) (a5 : Nat → List Int32) (q5 : Nat → List Int64) (r5 : Nat → Nat), kG yw154_116_L9 ig2 ag2 qg2 rg2 i5 a5 q5 r5 → (i5 7438).toInt = (i 7438).toInt → (i 7437).toInt ≤ (i5 7437).toInt → (i5 7437).toInt ≤ (i5 7429).toInt → ((i5 7439).toInt - (i5 7437).toInt) ≤ ((i 7439).toInt - (i 7437).toInt) → (i 7439).toInt ≤ (i5 7439).toInt → ((i 7437).toInt + 1) ≤ (i5 7437).toInt → rGo t nn (rP3 t nn (rO t nn n)) opSum (i5 7437, i5 7439, a5 127) (rMul t nn (rP3 t nn (rO t nn n)) opSum (i 7437, i 7439, a 127)) → (((i5 7429).toInt - (i5 7437).toInt)).toNat < nz → ko (6 * n + 12) (mi_h154, mi_c154) P (9, [(0, .ref 116)], [], (0, 0), ks i5 a5 q5 r5) := by
      intro nz
      induction nz with
      | zero =>
        intro _ _ _ _ _ _ _ _ _ _ _ _ hm
        exact absurd hm (Nat.not_lt_zero _)
      | succ nz ih5 =>
        intro i5 a5 q5 r5 hL5 p5_0 p5_1 p5_2 p5_3 p5_4 p5_5 O5_0 hm5
        have fi5_7437 : ((0 : Int) ≤ (i5 7437).toInt) ∧ ((i5 7437).toInt ≤ 120) := hL5.I.1 7437
        have fi5_7429 : ((0 : Int) ≤ (i5 7429).toInt) ∧ ((i5 7429).toInt ≤ 120) := hL5.I.1 7429
        have efi5_7429 : (i5 7429).toInt = (ig2 7429).toInt := hL5.ti 7429 rfl
        have fi5_7439 : ((0 : Int) ≤ (i5 7439).toInt) ∧ ((i5 7439).toInt ≤ 200) := hL5.I.1 7439
        refine ft_go mi_k154 1 10 [(0, .ref 116)] [.ref 116] i5 a5 q5 r5 (by rfl) ?_
        refine ko_callPI mi_k154.1 (pc := 10) (ls := [(0, .ref 116)]) (st := [.ref 116]) (h := ks i5 a5 q5 r5) (i := (.invokevirtual 166, 3, 147, 0, 9, 0, 404)) (mi_k154.2 _ _ (by rfl)) (ft_invS mi_pq147 (by rfl)) (cy := mi_c147) mi_pq147 rfl (ke147_116 hL5.I hL5.R t nn (((hL5.fa 119 rfl).trans (kg2.fa 119 rfl)).trans hT) (((hL5.fi 7429 rfl).trans (kg2.fi 7429 rfl)).trans hN) hX) (kj_d3 (n := n) (c := 1) (o1 := 12) (by decide)) ?_
        intro vg6 hg6
        obtain ⟨hg6, og6⟩ := hg6
        have z7 : (((-1) : Int) ≤ vg6.toInt) ∧ (vg6.toInt ≤ 255) ∧ ((vg6.toInt = (-1)) ∨ ((i5 7437).toInt < (i5 7429).toInt)) := hg6
        have q8 : vg6 = cHr t nn (i5 7437) 0 := og6
        have hv9 : vg6.toInt = (cHr t nn (i5 7437) 0).toInt := congrArg Int32.toInt og6
        refine ft_go mi_k154 1 15 [(0, .ref 116)] [.int 43, .int vg6] i5 a5 q5 r5 (by rfl) ?_
        refine ft_if mi_k154 (vg6 != 43) 23 18 [(0, .ref 116)] [] (by rfl) (fun c => ?_) (fun c => ?_)
        ·
          have c10 : vg6.toInt ≠ (43 : Int32).toInt := kd_ne c; clear c
          refine ft_go mi_k154 1 24 [(0, .ref 116)] [.ref 116] i5 a5 q5 r5 (by rfl) ?_
          refine ko_callPI mi_k154.1 (pc := 24) (ls := [(0, .ref 116)]) (st := [.ref 116]) (h := ks i5 a5 q5 r5) (i := (.invokevirtual 166, 3, 147, 0, 9, 0, 404)) (mi_k154.2 _ _ (by rfl)) (ft_invS mi_pq147 (by rfl)) (cy := mi_c147) mi_pq147 rfl (ke147_116 hL5.I hL5.R t nn (((hL5.fa 119 rfl).trans (kg2.fa 119 rfl)).trans hT) (((hL5.fi 7429 rfl).trans (kg2.fi 7429 rfl)).trans hN) hX) (kj_d3 (n := n) (c := 1) (o1 := 12) (by decide)) ?_
          intro vg11 hg11
          obtain ⟨hg11, og11⟩ := hg11
          have z12 : (((-1) : Int) ≤ vg11.toInt) ∧ (vg11.toInt ≤ 255) ∧ ((vg11.toInt = (-1)) ∨ ((i5 7437).toInt < (i5 7429).toInt)) := hg11
          have q13 : vg11 = cHr t nn (i5 7437) 0 := og11
          have hv14 : vg11.toInt = (cHr t nn (i5 7437) 0).toInt := congrArg Int32.toInt og11
          refine ft_go mi_k154 1 29 [(0, .ref 116)] [.int 45, .int vg11] i5 a5 q5 r5 (by rfl) ?_
          refine ft_if mi_k154 (vg11 != 45) 37 32 [(0, .ref 116)] [] (by rfl) (fun c => ?_) (fun c => ?_)
          ·
            have c15 : vg11.toInt ≠ (45 : Int32).toInt := kd_ne c; clear c
            refine ft_go mi_k154 4 43 [(1, .int (-1)), (0, .ref 116)] [] i5 a5 q5 r5 (by rfl) ?_
            have hG16 := kG_call hGg2 hL5 (by decide +kernel)
            refine ft_go mi_k154 1 44 [(1, .int (-1)), (0, .ref 116)] [.int 1] i5 a5 q5 r5 (by rfl) ?_
            exact ft_ret mi_k154 (by rfl) (hP 1 _ _ _ _ hG16 ⟨(oq290 p5_0 p5_2 p5_3 p5_4 p5_5 koq1), (rGo_out O5_0 (opSum_of (x := (cHr t nn (i5 7437) 0)) (g := (-1)) (Or.inr (Or.inr (⟨(oq296 c10 hv9 koq43), (oq297 c15 hv14 koq45), (oq251 koqm1)⟩)))) (oq252 koqm1) rfl)⟩)
          ·
            have c17 : vg11.toInt = (45 : Int32).toInt := kd_neF c; clear c
            have s18 : ((i5 7437) + 1).toInt = (i5 7437).toInt + (1 : Int32).toInt := kd_add (oq115 fi5_7437.1 koq1) (oq116 fi5_7437.2 koq1)
            have hJ19 := kG_i hL5 7437 rfl (v := ((i5 7437) + 1)) ⟨(oq117 fi5_7437.1 s18 koq1), (oq298 c17 fi5_7429.2 hv14 hv9 s18 z7.2.2 koq45 koq1)⟩
            refine ft_go mi_k154 12 56 [(1, .int 12), (0, .ref 116)] [.ref 116] (ku i5 7437 ((i5 7437) + 1)) a5 q5 r5 (by rfl) ?_
            refine ko_callI mi_k154.1 (pc := 56) (ls := [(1, .int 12), (0, .ref 116)]) (st := [.ref 116]) (h := ks (ku i5 7437 ((i5 7437) + 1)) a5 q5 r5) (i := (.invokevirtual 196, 3, 153, 0, 9, 0, 401)) (mi_k154.2 _ _ (by rfl)) (ft_invS mi_pq153 (by rfl)) (cy := mi_c153) mi_pq153 rfl (h153 _ _ _ _ hJ19.I hJ19.R (oq291 hp0 p5_0) (oq255 hp1 p5_3 s18 koq1) (oq299 c17 hv14 hv9 s18 z7.2.2 koq45 koq1) t nn (((hL5.fa 119 rfl).trans (kg2.fa 119 rfl)).trans hT) (((hL5.fi 7429 rfl).trans (kg2.fi 7429 rfl)).trans hN) hX) (kj_d1 (n := n) (o := 11) (o1 := 12) (by decide)) ?_
            intro vg20 ig20 ag20 qg20 rg20 kg20 hg20
            have hGg20 := kG_call hJ19 kg20 (by decide +kernel)
            obtain ⟨hg20, og20⟩ := hg20
            have fig20_7437 : ((0 : Int) ≤ (ig20 7437).toInt) ∧ ((ig20 7437).toInt ≤ 120) := hGg20.I.1 7437
            have fig20_7429 : ((0 : Int) ≤ (ig20 7429).toInt) ∧ ((ig20 7429).toInt ≤ 120) := hGg20.I.1 7429
            have efig20_7429 : (ig20 7429).toInt = (i5 7429).toInt := kg20.ti 7429 rfl
            have fig20_7439 : ((0 : Int) ≤ (ig20 7439).toInt) ∧ ((ig20 7439).toInt ≤ 200) := hGg20.I.1 7439
            have z21 : ((ig20 7438).toInt = (i5 7438).toInt) ∧ (((i5 7437) + 1).toInt ≤ (ig20 7437).toInt) ∧ ((ig20 7437).toInt ≤ (ig20 7429).toInt) ∧ (((ig20 7439).toInt - (ig20 7437).toInt) ≤ ((i5 7439).toInt - ((i5 7437) + 1).toInt)) ∧ ((i5 7439).toInt ≤ (ig20 7439).toInt) ∧ ((0 : Int) ≤ vg20.toInt) ∧ (vg20.toInt ≤ 1) ∧ (((vg20.toInt = 1) → ((((i5 7437) + 1).toInt + 1) ≤ (ig20 7437).toInt))) := hg20
            refine ft_if mi_k154 (vg20 != 0) 64 62 [(1, .int 12), (0, .ref 116)] [] (by rfl) (fun c => ?_) (fun c => ?_)
            ·
              have c22 : vg20.toInt ≠ (0 : Int32).toInt := kd_ne c; clear c
              refine ft_go mi_k154 2 66 [(1, .int 12), (0, .ref 116)] [.int 12, .ref 116] ig20 ag20 qg20 rg20 (by rfl) ?_
              refine ko_callI mi_k154.1 (pc := 66) (ls := [(1, .int 12), (0, .ref 116)]) (st := [.int 12, .ref 116]) (h := ks ig20 ag20 qg20 rg20) (i := (.invokevirtual 177, 3, 149, 0, 9, 0, 405)) (mi_k154.2 _ _ (by rfl)) (ft_invS mi_pq149 (by rfl)) (cy := mi_c149) mi_pq149 rfl (kf149_116 hGg20.I hGg20.R 12 (oq257 fig20_7437.2 fig20_7439.1 hp1 p5_3 s18 z21.2.2.2.1 koq1)) (kj_d3 (n := n) (c := 1) (o1 := 12) (by decide)) ?_
              intro vg23 ig23 ag23 qg23 rg23 kg23 hg23
              have hGg23 := kG_call hGg20 kg23 (by decide +kernel)
              obtain ⟨hg23, og23⟩ := hg23
              have fig23_7439 : ((0 : Int) ≤ (ig23 7439).toInt) ∧ ((ig23 7439).toInt ≤ 200) := hGg23.I.1 7439
              have z24 : (vg23.toInt = 1) ∧ ((ig23 7439).toInt = ((ig20 7439).toInt + 1)) := hg23
              have q25 : ag23 127 = (ag20 127).set (ig20 7439).toNatClampNeg (12 : Int32) := og23.1
              have q26 : ig23 7439 = ig20 7439 + 1 := og23.2
              refine ft_go mi_k154 2 9 [(1, .int 12), (0, .ref 116)] [] ig23 ag23 qg23 rg23 (by rfl) ?_
              refine ko_perm [(0, .ref 116)] (List.forall_mem_cons.mpr ⟨(List.Mem.tail _ (List.Mem.head _)), (fun _ h => absurd h List.not_mem_nil)⟩) ?_
              have efig23_7438 : (ig23 7438).toInt = (ig20 7438).toInt := kg23.ti 7438 rfl
              have fig23_7437 : ((0 : Int) ≤ (ig23 7437).toInt) ∧ ((ig23 7437).toInt ≤ 120) := hGg23.I.1 7437
              have efig23_7437 : (ig23 7437).toInt = (ig20 7437).toInt := kg23.ti 7437 rfl
              have fig23_7429 : ((0 : Int) ≤ (ig23 7429).toInt) ∧ ((ig23 7429).toInt ≤ 120) := hGg23.I.1 7429
              have efig23_7429 : (ig23 7429).toInt = (ig20 7429).toInt := kg23.ti 7429 rfl
              exact ih5 _ _ _ _ hGg23 (oq292 efig23_7438 p5_0 z21.1) (oq259 efig23_7437 p5_5 s18 z21.2.1 koq1) (oq260 efig23_7429 efig23_7437 z21.2.2.1) (oq293 efig23_7437 p5_3 s18 z21.2.2.2.1 z24.2 koq1) (oq294 p5_4 z21.2.2.2.2.1 z24.2) (oq263 efig23_7437 p5_5 s18 z21.2.1 koq1) (rGo_again O5_0 (opSum_of (x := (cHr t nn (i5 7437) 0)) (g := 12) (Or.inr (Or.inl ⟨(oq300 c17 hv14 koq45), (oq301 koq12)⟩))) (oq302 koq12) (oq267 efi5_7429 efig20_7429 efig2_7429 hn1 s18 z21.2.1 z21.2.2.1 koq1) og20 (oq151 c22 z21.2.2.2.2.2.1 koq0) (tCod og23.1 og23.2 (kg23.fi 7437 rfl)) (oq268 efig23_7437 s18 z21.2.1 koq1)) (kj_meas (oq269 efig20_7429 efig23_7429 efig23_7437 s18 z21.2.1 koq1) (oq270 efig20_7429 s18 z21.2.1 z21.2.2.1 koq1) hm5)
            ·
              have c27 : vg20.toInt = (0 : Int32).toInt := kd_neF c; clear c
              have hG28 := kG_call hGg2 hGg20 (by decide +kernel)
              refine ft_go mi_k154 1 63 [(1, .int 12), (0, .ref 116)] [.int 0] ig20 ag20 qg20 rg20 (by rfl) ?_
              exact ft_ret mi_k154 (by rfl) (hP 0 _ _ _ _ hG28 ⟨(oq295 p5_0 p5_3 p5_4 p5_5 s18 z21.1 z21.2.1 z21.2.2.1 z21.2.2.2.1 z21.2.2.2.2.1 koq1 koq0), (rGo_no O5_0 (opSum_of (x := (cHr t nn (i5 7437) 0)) (g := 12) (Or.inr (Or.inl ⟨(oq300 c17 hv14 koq45), (oq301 koq12)⟩))) (oq302 koq12) (oq267 efi5_7429 efig20_7429 efig2_7429 hn1 s18 z21.2.1 z21.2.2.1 koq1) og20 (oq143 c27 z21.2.2.2.2.2.1 koq0) rfl)⟩)
        ·
          have c29 : vg6.toInt = (43 : Int32).toInt := kd_neF c; clear c
          have s30 : ((i5 7437) + 1).toInt = (i5 7437).toInt + (1 : Int32).toInt := kd_add (oq115 fi5_7437.1 koq1) (oq116 fi5_7437.2 koq1)
          have hJ31 := kG_i hL5 7437 rfl (v := ((i5 7437) + 1)) ⟨(oq117 fi5_7437.1 s30 koq1), (oq303 c29 fi5_7429.2 s30 z7.2.2 koq43 koq1)⟩
          refine ft_go mi_k154 12 56 [(1, .int 11), (0, .ref 116)] [.ref 116] (ku i5 7437 ((i5 7437) + 1)) a5 q5 r5 (by rfl) ?_
          refine ko_callI mi_k154.1 (pc := 56) (ls := [(1, .int 11), (0, .ref 116)]) (st := [.ref 116]) (h := ks (ku i5 7437 ((i5 7437) + 1)) a5 q5 r5) (i := (.invokevirtual 196, 3, 153, 0, 9, 0, 401)) (mi_k154.2 _ _ (by rfl)) (ft_invS mi_pq153 (by rfl)) (cy := mi_c153) mi_pq153 rfl (h153 _ _ _ _ hJ31.I hJ31.R (oq291 hp0 p5_0) (oq255 hp1 p5_3 s30 koq1) (oq304 c29 s30 z7.2.2 koq43 koq1) t nn (((hL5.fa 119 rfl).trans (kg2.fa 119 rfl)).trans hT) (((hL5.fi 7429 rfl).trans (kg2.fi 7429 rfl)).trans hN) hX) (kj_d1 (n := n) (o := 11) (o1 := 12) (by decide)) ?_
          intro vg32 ig32 ag32 qg32 rg32 kg32 hg32
          have hGg32 := kG_call hJ31 kg32 (by decide +kernel)
          obtain ⟨hg32, og32⟩ := hg32
          have fig32_7437 : ((0 : Int) ≤ (ig32 7437).toInt) ∧ ((ig32 7437).toInt ≤ 120) := hGg32.I.1 7437
          have fig32_7429 : ((0 : Int) ≤ (ig32 7429).toInt) ∧ ((ig32 7429).toInt ≤ 120) := hGg32.I.1 7429
          have efig32_7429 : (ig32 7429).toInt = (i5 7429).toInt := kg32.ti 7429 rfl
          have fig32_7439 : ((0 : Int) ≤ (ig32 7439).toInt) ∧ ((ig32 7439).toInt ≤ 200) := hGg32.I.1 7439
          have z33 : ((ig32 7438).toInt = (i5 7438).toInt) ∧ (((i5 7437) + 1).toInt ≤ (ig32 7437).toInt) ∧ ((ig32 7437).toInt ≤ (ig32 7429).toInt) ∧ (((ig32 7439).toInt - (ig32 7437).toInt) ≤ ((i5 7439).toInt - ((i5 7437) + 1).toInt)) ∧ ((i5 7439).toInt ≤ (ig32 7439).toInt) ∧ ((0 : Int) ≤ vg32.toInt) ∧ (vg32.toInt ≤ 1) ∧ (((vg32.toInt = 1) → ((((i5 7437) + 1).toInt + 1) ≤ (ig32 7437).toInt))) := hg32
          refine ft_if mi_k154 (vg32 != 0) 64 62 [(1, .int 11), (0, .ref 116)] [] (by rfl) (fun c => ?_) (fun c => ?_)
          ·
            have c34 : vg32.toInt ≠ (0 : Int32).toInt := kd_ne c; clear c
            refine ft_go mi_k154 2 66 [(1, .int 11), (0, .ref 116)] [.int 11, .ref 116] ig32 ag32 qg32 rg32 (by rfl) ?_
            refine ko_callI mi_k154.1 (pc := 66) (ls := [(1, .int 11), (0, .ref 116)]) (st := [.int 11, .ref 116]) (h := ks ig32 ag32 qg32 rg32) (i := (.invokevirtual 177, 3, 149, 0, 9, 0, 405)) (mi_k154.2 _ _ (by rfl)) (ft_invS mi_pq149 (by rfl)) (cy := mi_c149) mi_pq149 rfl (kf149_116 hGg32.I hGg32.R 11 (oq257 fig32_7437.2 fig32_7439.1 hp1 p5_3 s30 z33.2.2.2.1 koq1)) (kj_d3 (n := n) (c := 1) (o1 := 12) (by decide)) ?_
            intro vg35 ig35 ag35 qg35 rg35 kg35 hg35
            have hGg35 := kG_call hGg32 kg35 (by decide +kernel)
            obtain ⟨hg35, og35⟩ := hg35
            have fig35_7439 : ((0 : Int) ≤ (ig35 7439).toInt) ∧ ((ig35 7439).toInt ≤ 200) := hGg35.I.1 7439
            have z36 : (vg35.toInt = 1) ∧ ((ig35 7439).toInt = ((ig32 7439).toInt + 1)) := hg35
            have q37 : ag35 127 = (ag32 127).set (ig32 7439).toNatClampNeg (11 : Int32) := og35.1
            have q38 : ig35 7439 = ig32 7439 + 1 := og35.2
            refine ft_go mi_k154 2 9 [(1, .int 11), (0, .ref 116)] [] ig35 ag35 qg35 rg35 (by rfl) ?_
            refine ko_perm [(0, .ref 116)] (List.forall_mem_cons.mpr ⟨(List.Mem.tail _ (List.Mem.head _)), (fun _ h => absurd h List.not_mem_nil)⟩) ?_
            have efig35_7438 : (ig35 7438).toInt = (ig32 7438).toInt := kg35.ti 7438 rfl
            have fig35_7437 : ((0 : Int) ≤ (ig35 7437).toInt) ∧ ((ig35 7437).toInt ≤ 120) := hGg35.I.1 7437
            have efig35_7437 : (ig35 7437).toInt = (ig32 7437).toInt := kg35.ti 7437 rfl
            have fig35_7429 : ((0 : Int) ≤ (ig35 7429).toInt) ∧ ((ig35 7429).toInt ≤ 120) := hGg35.I.1 7429
            have efig35_7429 : (ig35 7429).toInt = (ig32 7429).toInt := kg35.ti 7429 rfl
            exact ih5 _ _ _ _ hGg35 (oq292 efig35_7438 p5_0 z33.1) (oq259 efig35_7437 p5_5 s30 z33.2.1 koq1) (oq260 efig35_7429 efig35_7437 z33.2.2.1) (oq293 efig35_7437 p5_3 s30 z33.2.2.2.1 z36.2 koq1) (oq294 p5_4 z33.2.2.2.2.1 z36.2) (oq263 efig35_7437 p5_5 s30 z33.2.1 koq1) (rGo_again O5_0 (opSum_of (x := (cHr t nn (i5 7437) 0)) (g := 11) (Or.inl ⟨(oq305 c29 hv9 koq43), (oq306 koq11)⟩)) (oq307 koq11) (oq280 efi5_7429 efig2_7429 efig32_7429 hn1 s30 z33.2.1 z33.2.2.1 koq1) og32 (oq151 c34 z33.2.2.2.2.2.1 koq0) (tCod og35.1 og35.2 (kg35.fi 7437 rfl)) (oq268 efig35_7437 s30 z33.2.1 koq1)) (kj_meas (oq269 efig32_7429 efig35_7429 efig35_7437 s30 z33.2.1 koq1) (oq270 efig32_7429 s30 z33.2.1 z33.2.2.1 koq1) hm5)
          ·
            have c39 : vg32.toInt = (0 : Int32).toInt := kd_neF c; clear c
            have hG40 := kG_call hGg2 hGg32 (by decide +kernel)
            refine ft_go mi_k154 1 63 [(1, .int 11), (0, .ref 116)] [.int 0] ig32 ag32 qg32 rg32 (by rfl) ?_
            exact ft_ret mi_k154 (by rfl) (hP 0 _ _ _ _ hG40 ⟨(oq295 p5_0 p5_3 p5_4 p5_5 s30 z33.1 z33.2.1 z33.2.2.1 z33.2.2.2.1 z33.2.2.2.2.1 koq1 koq0), (rGo_no O5_0 (opSum_of (x := (cHr t nn (i5 7437) 0)) (g := 11) (Or.inl ⟨(oq305 c29 hv9 koq43), (oq306 koq11)⟩)) (oq307 koq11) (oq280 efi5_7429 efig2_7429 efig32_7429 hn1 s30 z33.2.1 z33.2.2.1 koq1) og32 (oq143 c39 z33.2.2.2.2.2.1 koq0) rfl)⟩)
    exact lp5 _ _ _ _ _ (kG_self _ hGg2.I hGg2.R) (oq208 z3.1) (oq222 z3.2.1) (oq222 z3.2.2.1) (oq287 z3.2.2.2.1) (oq222 z3.2.2.2.2.1) (oq288 c4 z3.2.2.2.2.2.1 z3.2.2.2.2.2.2.1 z3.2.2.2.2.2.2.2 koq0) (rGo_begin og2 (oq151 c4 z3.2.2.2.2.2.1 koq0) (oq2 fig2_7437.1)) (Nat.lt_succ_self _)
  ·
    have c41 : vg2.toInt = (0 : Int32).toInt := kd_neF c; clear c
    refine ft_go mi_k154 1 8 [(0, .ref 116)] [.int 0] ig2 ag2 qg2 rg2 (by rfl) ?_
    exact ft_ret mi_k154 (by rfl) (hP 0 _ _ _ _ hGg2 ⟨(oq289 z3.1 z3.2.1 z3.2.2.1 z3.2.2.2.1 z3.2.2.2.2.1 koq0), (rMu_no og2 (oq143 c41 z3.2.2.2.2.2.1 koq0) rfl)⟩)
