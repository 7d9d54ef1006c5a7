set_option maxRecDepth 100000 in
theorem kMsP10_53 (n : Nat) (h54 : kMP10_54 n) : kMP10_53 n := by
  intro i a q r hI hr x1 hp0 t nn hT hN hL hX
  have hG := kG_self wP10 hI hr
  refine km_ofN (q := (mi_h53, mi_c53)) rfl (by decide) (Nat.le_of_ble_eq_true rfl) ?_
  intro P hP
  have hn0 : (0 : Int) ≤ (n : Int) := Int.natCast_nonneg n
  have hn1 : (i 6273).toInt = nn.toInt := congrArg Int32.toInt hN
  have eRr_2 : r 2 = 10 := hL
  refine ft_go mi_k53 2 2 [(0, .ref 98), (1, .int x1)] [.int x1, .ref 98] i a q r (by rfl) ?_
  refine ko_callN mi_k53.1 (pc := 2) (ls := [(0, .ref 98), (1, .int x1)]) (st := [.int x1, .ref 98]) (h := ks i a q r) (i := (.invokevirtual 87, 3, 54, 0, 9, 0, 183)) (mi_k53.2 _ _ (by rfl)) (ft_invS mi_pq54 (by rfl)) (cy := mi_c54) mi_pq54 rfl (h54 _ _ _ _ hG.I hG.R x1 (op105 hp0.1 hp0.2) t nn hT hN eRr_2 hX) (kj_d1 (n := n) (o := 10) (o1 := 11) (by decide)) ?_
  intro ig2 ag2 qg2 rg2 kg2 hg2
  have hGg2 := kG_call hG kg2 (by decide +kernel)
  have eRrg2_2 : rg2 2 = 10 := (kg2.fr 2 rfl).trans eRr_2
  obtain ⟨hg2, og2⟩ := hg2
  refine ft_go mi_k53 2 8 [(0, .ref 98), (1, .int x1)] [.ref (mi_RO + 12), .ref 98] ig2 ag2 qg2 rg2 (by rfl) ?_
  refine ko_callI mi_k53.1 (pc := 8) (ls := [(0, .ref 98), (1, .int x1)]) (st := [.ref (mi_RO + 12), .ref 98]) (h := ks ig2 ag2 qg2 rg2) (i := (.invokevirtual 78, 3, 47, 0, 9, 0, 189)) (mi_k53.2 _ _ (by rfl)) (ft_invS mi_pq47 (by rfl)) (cy := mi_c47) mi_pq47 rfl (ke47_98_1000012 hGg2.I hGg2.R t nn ((kg2.fa 99 rfl).trans hT) ((kg2.fi 6273 rfl).trans hN) hX) (kj_d3 (n := n) (c := 9) (o1 := 11) (by decide)) ?_
  intro vg3 ig3 ag3 qg3 rg3 kg3 hg3
  have hGg3 := kG_call hGg2 kg3 (by decide +kernel)
  have eRrg3_2 : rg3 2 = 10 := (kg3.fr 2 rfl).trans eRrg2_2
  obtain ⟨hg3, og3⟩ := hg3
  have fig3_6274 : ((0 : Int) ≤ (ig3 6274).toInt) ∧ ((ig3 6274).toInt ≤ 120) := hGg3.I.1 6274
  have fig2_6274 : ((0 : Int) ≤ (ig2 6274).toInt) ∧ ((ig2 6274).toInt ≤ 120) := hGg2.I.1 6274
  have fig2_6273 : ((0 : Int) ≤ (ig2 6273).toInt) ∧ ((ig2 6273).toInt ≤ 120) := hGg2.I.1 6273
  have fi_6273 : ((0 : Int) ≤ (i 6273).toInt) ∧ ((i 6273).toInt ≤ 120) := hG.I.1 6273
  have efig2_6273 : (ig2 6273).toInt = (i 6273).toInt := kg2.ti 6273 rfl
  have fig2_6275 : ((0 : Int) ≤ (ig2 6275).toInt) ∧ ((ig2 6275).toInt ≤ 1) := hGg2.I.1 6275
  have z4 : ((vg3.toInt = (-1)) ∧ ((ig3 6274).toInt = (ig2 6274).toInt)) ∨ (((ig3 6274).toInt = ((ig2 6274).toInt + 1)) ∧ ((ig2 6274).toInt < (ig2 6273).toInt) ∧ ((ig2 6275).toInt = 0) ∧ ((vg3.toInt = 42) ∨ (vg3.toInt = 47) ∨ (vg3.toInt = 37))) := hg3
  have ho5 : vg3.toInt = (-1) ∨ vg3.toInt = (cHr t nn (ig2 6274) (ig2 6275)).toInt := tOf_v og3
  refine ft_go mi_k53 3 14 [(3, .int 0), (2, .int vg3), (0, .ref 98), (1, .int x1)] [] ig3 ag3 qg3 rg3 (by rfl) ?_
  have lp6 : ∀ (nz : Nat) (i6 : Nat → Int32) (a6 : Nat → List Int32) (q6 : Nat → List Int64) (r6 : Nat → Nat) (l3_6 : Int32) (l2_6 : Int32), kG yw53_98_L10_L14 ig3 ag3 qg3 rg3 i6 a6 q6 r6 → (0 : Int) ≤ l3_6.toInt → cLpS t nn (cO t nn n) oMul (nn.toInt - l3_6.toInt).toNat (l2_6, (i6 6274, i6 6275, a6 11, a6 12, i6 643)) = cMul t nn (cO t nn n) oMul (i 6274, i 6275, a 11, a 12, i 643) → (((i6 6273).toInt - l3_6.toInt)).toNat < nz → ko (6 * n + 11) (mi_h53, mi_c53) P (14, [(3, .int l3_6), (2, .int l2_6), (0, .ref 98), (1, .int x1)], [], (0, 0), ks i6 a6 q6 r6) := by
    intro nz
    induction nz with
    | zero =>
      intro _ _ _ _ _ _ _ _ _ hm
      exact absurd hm (Nat.not_lt_zero _)
    | succ nz ih6 =>
      intro i6 a6 q6 r6 l3_6 l2_6 hL6 p6_0 O6_0 hm6
      have fi6_6273 : ((0 : Int) ≤ (i6 6273).toInt) ∧ ((i6 6273).toInt ≤ 120) := hL6.I.1 6273
      have fig3_6273 : ((0 : Int) ≤ (ig3 6273).toInt) ∧ ((ig3 6273).toInt ≤ 120) := hGg3.I.1 6273
      have efig3_6273 : (ig3 6273).toInt = (ig2 6273).toInt := kg3.ti 6273 rfl
      have efi6_6273 : (i6 6273).toInt = (ig3 6273).toInt := hL6.ti 6273 rfl
      have eRr6_2 : r6 2 = 10 := (hL6.fr 2 rfl).trans eRrg3_2
      refine ft_go mi_k53 3 19 [(3, .int l3_6), (2, .int l2_6), (0, .ref 98), (1, .int x1)] [.int (i6 6273), .int l3_6] i6 a6 q6 r6 (by rfl) ?_
      refine ft_if mi_k53 (decide ((i6 6273) ≤ l3_6)) 55 22 [(3, .int l3_6), (2, .int l2_6), (0, .ref 98), (1, .int x1)] [] (by rfl) (fun c => ?_) (fun c => ?_)
      ·
        have c7 : (i6 6273).toInt ≤ l3_6.toInt := kd_le c; clear c
        have hG8 := kG_call hGg3 hL6 (by decide +kernel)
        exact ft_ret mi_k53 (by rfl) (hP  _ _ _ _ hG8 ⟨trivial, (cLS_end O6_0 (kj_sub0 (n := nn.toInt) (op116 c7 efi6_6273 efig2_6273 efig3_6273 hn1)))⟩)
      ·
        have c9 : l3_6.toInt < (i6 6273).toInt := kd_leF c; clear c
        refine ft_go mi_k53 2 24 [(3, .int l3_6), (2, .int l2_6), (0, .ref 98), (1, .int x1)] [.int (-1), .int l2_6] i6 a6 q6 r6 (by rfl) ?_
        refine ft_if mi_k53 (l2_6 == (-1)) 55 27 [(3, .int l3_6), (2, .int l2_6), (0, .ref 98), (1, .int x1)] [] (by rfl) (fun c => ?_) (fun c => ?_)
        ·
          have c10 : l2_6.toInt = ((-1) : Int32).toInt := kd_eq c; clear c
          have hG11 := kG_call hGg3 hL6 (by decide +kernel)
          exact ft_ret mi_k53 (by rfl) (hP  _ _ _ _ hG11 ⟨trivial, (cLS_out O6_0 (op64 c10 kopm1))⟩)
        ·
          have c12 : l2_6.toInt ≠ ((-1) : Int32).toInt := kd_eqF c; clear c
          refine ft_go mi_k53 2 29 [(3, .int l3_6), (2, .int l2_6), (0, .ref 98), (1, .int x1)] [.int x1, .ref 98] i6 a6 q6 r6 (by rfl) ?_
          refine ko_callN mi_k53.1 (pc := 29) (ls := [(3, .int l3_6), (2, .int l2_6), (0, .ref 98), (1, .int x1)]) (st := [.int x1, .ref 98]) (h := ks i6 a6 q6 r6) (i := (.invokevirtual 87, 3, 54, 0, 9, 0, 183)) (mi_k53.2 _ _ (by rfl)) (ft_invS mi_pq54 (by rfl)) (cy := mi_c54) mi_pq54 rfl (h54 _ _ _ _ hL6.I hL6.R x1 (op105 hp0.1 hp0.2) t nn ((((hL6.fa 99 rfl).trans (kg3.fa 99 rfl)).trans (kg2.fa 99 rfl)).trans hT) (((hL6.fi 6273 rfl).trans ((kg3.fi 6273 rfl).trans (kg2.fi 6273 rfl))).trans hN) eRr6_2 hX) (kj_d1 (n := n) (o := 10) (o1 := 11) (by decide)) ?_
          intro ig13 ag13 qg13 rg13 kg13 hg13
          have hGg13 := kG_call hL6 kg13 (by decide +kernel)
          have eRrg13_2 : rg13 2 = 10 := (kg13.fr 2 rfl).trans eRr6_2
          obtain ⟨hg13, og13⟩ := hg13
          refine ft_go mi_k53 2 36 [(3, .int l3_6), (2, .int l2_6), (0, .ref 98), (1, .int x1)] [.ref (rg13 2)] ig13 ag13 qg13 rg13 (by rfl) ?_
          refine ko_eq (x1 := (36, [(3, .int l3_6), (2, .int l2_6), (0, .ref 98), (1, .int x1)], [.ref 10], (0, 0), ks ig13 ag13 qg13 rg13)) (by rw [eRrg13_2]) ?_
          refine ft_go mi_k53 2 38 [(3, .int l3_6), (2, .int l2_6), (0, .ref 98), (1, .int x1)] [.int 0, .int l2_6, .ref 10] ig13 ag13 qg13 rg13 (by rfl) ?_
          refine ko_callI mi_k53.1 (pc := 38) (ls := [(3, .int l3_6), (2, .int l2_6), (0, .ref 98), (1, .int x1)]) (st := [.int 0, .int l2_6, .ref 10]) (h := ks ig13 ag13 qg13 rg13) (i := (.invokevirtual 60, 3, 17, 0, 9, 0, 187)) (mi_k53.2 _ _ (by rfl)) (ft_invS mi_pq17 (by rfl)) (cy := mi_c17) mi_pq17 rfl (kf17_10 hGg13.I hGg13.R l2_6 0) (kj_d3 (n := n) (c := 1) (o1 := 11) (by decide)) ?_
          intro vg14 ig14 ag14 qg14 rg14 kg14 hg14
          have hGg14 := kG_call hGg13 kg14 (by decide +kernel)
          have eRrg14_2 : rg14 2 = 10 := (kg14.fr 2 rfl).trans eRrg13_2
          obtain ⟨hg14, og14⟩ := hg14
          have fig13_643 : ((0 : Int) ≤ (ig13 643).toInt) ∧ ((ig13 643).toInt ≤ 121) := hGg13.I.1 643
          have fig14_643 : ((0 : Int) ≤ (ig14 643).toInt) ∧ ((ig14 643).toInt ≤ 121) := hGg14.I.1 643
          have z15 : (((ig13 643).toInt ≤ 120) ∧ ((ig14 643).toInt = ((ig13 643).toInt + 1))) ∨ (((121 : Int) ≤ (ig13 643).toInt) ∧ ((ig14 643).toInt = (ig13 643).toInt)) := hg14
          refine ft_go mi_k53 3 45 [(3, .int l3_6), (2, .int l2_6), (0, .ref 98), (1, .int x1)] [.ref (mi_RO + 12), .ref 98] ig14 ag14 qg14 rg14 (by rfl) ?_
          refine ko_callI mi_k53.1 (pc := 45) (ls := [(3, .int l3_6), (2, .int l2_6), (0, .ref 98), (1, .int x1)]) (st := [.ref (mi_RO + 12), .ref 98]) (h := ks ig14 ag14 qg14 rg14) (i := (.invokevirtual 78, 3, 47, 0, 9, 0, 189)) (mi_k53.2 _ _ (by rfl)) (ft_invS mi_pq47 (by rfl)) (cy := mi_c47) mi_pq47 rfl (ke47_98_1000012 hGg14.I hGg14.R t nn ((((((kg14.fa 99 rfl).trans (kg13.fa 99 rfl)).trans (hL6.fa 99 rfl)).trans (kg3.fa 99 rfl)).trans (kg2.fa 99 rfl)).trans hT) (((kg14.fi 6273 rfl).trans ((kg13.fi 6273 rfl).trans ((hL6.fi 6273 rfl).trans ((kg3.fi 6273 rfl).trans (kg2.fi 6273 rfl))))).trans hN) hX) (kj_d3 (n := n) (c := 9) (o1 := 11) (by decide)) ?_
          intro vg16 ig16 ag16 qg16 rg16 kg16 hg16
          have hGg16 := kG_call hGg14 kg16 (by decide +kernel)
          have eRrg16_2 : rg16 2 = 10 := (kg16.fr 2 rfl).trans eRrg14_2
          obtain ⟨hg16, og16⟩ := hg16
          have fig16_6274 : ((0 : Int) ≤ (ig16 6274).toInt) ∧ ((ig16 6274).toInt ≤ 120) := hGg16.I.1 6274
          have fig14_6274 : ((0 : Int) ≤ (ig14 6274).toInt) ∧ ((ig14 6274).toInt ≤ 120) := hGg14.I.1 6274
          have fig13_6274 : ((0 : Int) ≤ (ig13 6274).toInt) ∧ ((ig13 6274).toInt ≤ 120) := hGg13.I.1 6274
          have efig14_6274 : (ig14 6274).toInt = (ig13 6274).toInt := kg14.ti 6274 rfl
          have fig14_6273 : ((0 : Int) ≤ (ig14 6273).toInt) ∧ ((ig14 6273).toInt ≤ 120) := hGg14.I.1 6273
          have fig13_6273 : ((0 : Int) ≤ (ig13 6273).toInt) ∧ ((ig13 6273).toInt ≤ 120) := hGg13.I.1 6273
          have efig13_6273 : (ig13 6273).toInt = (i6 6273).toInt := kg13.ti 6273 rfl
          have efig14_6273 : (ig14 6273).toInt = (ig13 6273).toInt := kg14.ti 6273 rfl
          have fig14_6275 : ((0 : Int) ≤ (ig14 6275).toInt) ∧ ((ig14 6275).toInt ≤ 1) := hGg14.I.1 6275
          have fig13_6275 : ((0 : Int) ≤ (ig13 6275).toInt) ∧ ((ig13 6275).toInt ≤ 1) := hGg13.I.1 6275
          have efig14_6275 : (ig14 6275).toInt = (ig13 6275).toInt := kg14.ti 6275 rfl
          have z17 : ((vg16.toInt = (-1)) ∧ ((ig16 6274).toInt = (ig14 6274).toInt)) ∨ (((ig16 6274).toInt = ((ig14 6274).toInt + 1)) ∧ ((ig14 6274).toInt < (ig14 6273).toInt) ∧ ((ig14 6275).toInt = 0) ∧ ((vg16.toInt = 42) ∨ (vg16.toInt = 47) ∨ (vg16.toInt = 37))) := hg16
          have ho18 : vg16.toInt = (-1) ∨ vg16.toInt = (cHr t nn (ig14 6274) (ig14 6275)).toInt := tOf_v og16
          have s19 : (l3_6 + 1).toInt = l3_6.toInt + (1 : Int32).toInt := kd_add (op18 p6_0 kop1) (op117 c9 fi6_6273.2 kop1)
          refine ft_go mi_k53 3 14 [(3, .int (l3_6 + 1)), (2, .int vg16), (0, .ref 98), (1, .int x1)] [] ig16 ag16 qg16 rg16 (by rfl) ?_
          have fig16_6273 : ((0 : Int) ≤ (ig16 6273).toInt) ∧ ((ig16 6273).toInt ≤ 120) := hGg16.I.1 6273
          have efig16_6273 : (ig16 6273).toInt = (ig14 6273).toInt := kg16.ti 6273 rfl
          exact ih6 _ _ _ _ _ _ hGg16 (op20 p6_0 s19 kop1) (cLS_again O6_0 (kj_sub2 (n := nn.toInt) (op118 c9 efi6_6273 efig2_6273 efig3_6273 hn1) (op4 p6_0) (op30 s19 kop1)) (op119 c12 kopm1) og13 (tAdd og14.1 (kg14.fi 6274 rfl) (kg14.fi 6275 rfl)) (tOf og16 (kg16.fi 6275 rfl) (kT3 (kg16.fa 11 rfl) (kg16.fa 12 rfl) (kg16.fi 643 rfl)))) (kj_meas (op120 efig13_6273 efig14_6273 efig16_6273 s19 kop1) (op121 c9) hm6)
  exact lp6 _ _ _ _ _ _ _ (kG_self _ hGg3.I hGg3.R) (op36 kop0) (cLS_begin og2 (tOf og3 (kg3.fi 6275 rfl) (kT3 (kg3.fa 11 rfl) (kg3.fa 12 rfl) (kg3.fi 643 rfl))) (kj_sub00 kop0)) (Nat.lt_succ_self _)
set_option maxRecDepth 100000 in
theorem kMsP10_52 (n : Nat) (h54 : kMP10_54 n) (h53 : kMP10_53 n) : kMP10_52 n := by
  intro i a q r hI hr x1 hp0 t nn hT hN hL hX
  have hG := kG_self wP10 hI hr
  refine km_ofN (q := (mi_h52, mi_c52)) rfl (by decide) (Nat.le_of_ble_eq_true rfl) ?_
  intro P hP
  have hn0 : (0 : Int) ≤ (n : Int) := Int.natCast_nonneg n
  have hn1 : (i 6273).toInt = nn.toInt := congrArg Int32.toInt hN
  have eRr_2 : r 2 = 10 := hL
  refine ft_go mi_k52 2 2 [(0, .ref 98), (1, .int x1)] [.int x1, .ref 98] i a q r (by rfl) ?_
  refine ko_callN mi_k52.1 (pc := 2) (ls := [(0, .ref 98), (1, .int x1)]) (st := [.int x1, .ref 98]) (h := ks i a q r) (i := (.invokevirtual 82, 3, 53, 0, 9, 0, 182)) (mi_k52.2 _ _ (by rfl)) (ft_invS mi_pq53 (by rfl)) (cy := mi_c53) mi_pq53 rfl (h53 _ _ _ _ hG.I hG.R x1 (op105 hp0.1 hp0.2) t nn hT hN eRr_2 hX) (kj_d1 (n := n) (o := 11) (o1 := 12) (by decide)) ?_
  intro ig2 ag2 qg2 rg2 kg2 hg2
  have hGg2 := kG_call hG kg2 (by decide +kernel)
  have eRrg2_2 : rg2 2 = 10 := (kg2.fr 2 rfl).trans eRr_2
  obtain ⟨hg2, og2⟩ := hg2
  refine ft_go mi_k52 2 8 [(0, .ref 98), (1, .int x1)] [.ref (mi_RO + 13), .ref 98] ig2 ag2 qg2 rg2 (by rfl) ?_
  refine ko_callI mi_k52.1 (pc := 8) (ls := [(0, .ref 98), (1, .int x1)]) (st := [.ref (mi_RO + 13), .ref 98]) (h := ks ig2 ag2 qg2 rg2) (i := (.invokevirtual 78, 3, 47, 0, 9, 0, 189)) (mi_k52.2 _ _ (by rfl)) (ft_invS mi_pq47 (by rfl)) (cy := mi_c47) mi_pq47 rfl (ke47_98_1000013 hGg2.I hGg2.R t nn ((kg2.fa 99 rfl).trans hT) ((kg2.fi 6273 rfl).trans hN) hX) (kj_d3 (n := n) (c := 9) (o1 := 12) (by decide)) ?_
  intro vg3 ig3 ag3 qg3 rg3 kg3 hg3
  have hGg3 := kG_call hGg2 kg3 (by decide +kernel)
  have eRrg3_2 : rg3 2 = 10 := (kg3.fr 2 rfl).trans eRrg2_2
  obtain ⟨hg3, og3⟩ := hg3
  have fig3_6274 : ((0 : Int) ≤ (ig3 6274).toInt) ∧ ((ig3 6274).toInt ≤ 120) := hGg3.I.1 6274
  have fig2_6274 : ((0 : Int) ≤ (ig2 6274).toInt) ∧ ((ig2 6274).toInt ≤ 120) := hGg2.I.1 6274
  have fig2_6273 : ((0 : Int) ≤ (ig2 6273).toInt) ∧ ((ig2 6273).toInt ≤ 120) := hGg2.I.1 6273
  have fi_6273 : ((0 : Int) ≤ (i 6273).toInt) ∧ ((i 6273).toInt ≤ 120) := hG.I.1 6273
  have efig2_6273 : (ig2 6273).toInt = (i 6273).toInt := kg2.ti 6273 rfl
  have fig2_6275 : ((0 : Int) ≤ (ig2 6275).toInt) ∧ ((ig2 6275).toInt ≤ 1) := hGg2.I.1 6275
  have z4 : ((vg3.toInt = (-1)) ∧ ((ig3 6274).toInt = (ig2 6274).toInt)) ∨ (((ig3 6274).toInt = ((ig2 6274).toInt + 1)) ∧ ((ig2 6274).toInt < (ig2 6273).toInt) ∧ ((ig2 6275).toInt = 0) ∧ ((vg3.toInt = 43) ∨ (vg3.toInt = 45))) := hg3
  have ho5 : vg3.toInt = (-1) ∨ vg3.toInt = (cHr t nn (ig2 6274) (ig2 6275)).toInt := tOf_v og3
  refine ft_go mi_k52 3 14 [(3, .int 0), (2, .int vg3), (0, .ref 98), (1, .int x1)] [] ig3 ag3 qg3 rg3 (by rfl) ?_
  have lp6 : ∀ (nz : Nat) (i6 : Nat → Int32) (a6 : Nat → List Int32) (q6 : Nat → List Int64) (r6 : Nat → Nat) (l3_6 : Int32) (l2_6 : Int32), kG yw52_98_L10_L14 ig3 ag3 qg3 rg3 i6 a6 q6 r6 → (0 : Int) ≤ l3_6.toInt → cLpS t nn (cP3 t nn (cO t nn n)) oSum (nn.toInt - l3_6.toInt).toNat (l2_6, (i6 6274, i6 6275, a6 11, a6 12, i6 643)) = cMul t nn (cP3 t nn (cO t nn n)) oSum (i 6274, i 6275, a 11, a 12, i 643) → (((i6 6273).toInt - l3_6.toInt)).toNat < nz → ko (6 * n + 12) (mi_h52, mi_c52) P (14, [(3, .int l3_6), (2, .int l2_6), (0, .ref 98), (1, .int x1)], [], (0, 0), ks i6 a6 q6 r6) := by
    intro nz
    induction nz with
    | zero =>
      intro _ _ _ _ _ _ _ _ _ hm
      exact absurd hm (Nat.not_lt_zero _)
    | succ nz ih6 =>
      intro i6 a6 q6 r6 l3_6 l2_6 hL6 p6_0 O6_0 hm6
      have fi6_6273 : ((0 : Int) ≤ (i6 6273).toInt) ∧ ((i6 6273).toInt ≤ 120) := hL6.I.1 6273
      have fig3_6273 : ((0 : Int) ≤ (ig3 6273).toInt) ∧ ((ig3 6273).toInt ≤ 120) := hGg3.I.1 6273
      have efig3_6273 : (ig3 6273).toInt = (ig2 6273).toInt := kg3.ti 6273 rfl
      have efi6_6273 : (i6 6273).toInt = (ig3 6273).toInt := hL6.ti 6273 rfl
      have eRr6_2 : r6 2 = 10 := (hL6.fr 2 rfl).trans eRrg3_2
      refine ft_go mi_k52 3 19 [(3, .int l3_6), (2, .int l2_6), (0, .ref 98), (1, .int x1)] [.int (i6 6273), .int l3_6] i6 a6 q6 r6 (by rfl) ?_
      refine ft_if mi_k52 (decide ((i6 6273) ≤ l3_6)) 55 22 [(3, .int l3_6), (2, .int l2_6), (0, .ref 98), (1, .int x1)] [] (by rfl) (fun c => ?_) (fun c => ?_)
      ·
        have c7 : (i6 6273).toInt ≤ l3_6.toInt := kd_le c; clear c
        have hG8 := kG_call hGg3 hL6 (by decide +kernel)
        exact ft_ret mi_k52 (by rfl) (hP  _ _ _ _ hG8 ⟨trivial, (cLS_end O6_0 (kj_sub0 (n := nn.toInt) (op116 c7 efi6_6273 efig2_6273 efig3_6273 hn1)))⟩)
      ·
        have c9 : l3_6.toInt < (i6 6273).toInt := kd_leF c; clear c
        refine ft_go mi_k52 2 24 [(3, .int l3_6), (2, .int l2_6), (0, .ref 98), (1, .int x1)] [.int (-1), .int l2_6] i6 a6 q6 r6 (by rfl) ?_
        refine ft_if mi_k52 (l2_6 == (-1)) 55 27 [(3, .int l3_6), (2, .int l2_6), (0, .ref 98), (1, .int x1)] [] (by rfl) (fun c => ?_) (fun c => ?_)
        ·
          have c10 : l2_6.toInt = ((-1) : Int32).toInt := kd_eq c; clear c
          have hG11 := kG_call hGg3 hL6 (by decide +kernel)
          exact ft_ret mi_k52 (by rfl) (hP  _ _ _ _ hG11 ⟨trivial, (cLS_out O6_0 (op64 c10 kopm1))⟩)
        ·
          have c12 : l2_6.toInt ≠ ((-1) : Int32).toInt := kd_eqF c; clear c
          refine ft_go mi_k52 2 29 [(3, .int l3_6), (2, .int l2_6), (0, .ref 98), (1, .int x1)] [.int x1, .ref 98] i6 a6 q6 r6 (by rfl) ?_
          refine ko_callN mi_k52.1 (pc := 29) (ls := [(3, .int l3_6), (2, .int l2_6), (0, .ref 98), (1, .int x1)]) (st := [.int x1, .ref 98]) (h := ks i6 a6 q6 r6) (i := (.invokevirtual 82, 3, 53, 0, 9, 0, 182)) (mi_k52.2 _ _ (by rfl)) (ft_invS mi_pq53 (by rfl)) (cy := mi_c53) mi_pq53 rfl (h53 _ _ _ _ hL6.I hL6.R x1 (op105 hp0.1 hp0.2) t nn ((((hL6.fa 99 rfl).trans (kg3.fa 99 rfl)).trans (kg2.fa 99 rfl)).trans hT) (((hL6.fi 6273 rfl).trans ((kg3.fi 6273 rfl).trans (kg2.fi 6273 rfl))).trans hN) eRr6_2 hX) (kj_d1 (n := n) (o := 11) (o1 := 12) (by decide)) ?_
          intro ig13 ag13 qg13 rg13 kg13 hg13
          have hGg13 := kG_call hL6 kg13 (by decide +kernel)
          have eRrg13_2 : rg13 2 = 10 := (kg13.fr 2 rfl).trans eRr6_2
          obtain ⟨hg13, og13⟩ := hg13
          refine ft_go mi_k52 2 36 [(3, .int l3_6), (2, .int l2_6), (0, .ref 98), (1, .int x1)] [.ref (rg13 2)] ig13 ag13 qg13 rg13 (by rfl) ?_
          refine ko_eq (x1 := (36, [(3, .int l3_6), (2, .int l2_6), (0, .ref 98), (1, .int x1)], [.ref 10], (0, 0), ks ig13 ag13 qg13 rg13)) (by rw [eRrg13_2]) ?_
          refine ft_go mi_k52 2 38 [(3, .int l3_6), (2, .int l2_6), (0, .ref 98), (1, .int x1)] [.int 0, .int l2_6, .ref 10] ig13 ag13 qg13 rg13 (by rfl) ?_
          refine ko_callI mi_k52.1 (pc := 38) (ls := [(3, .int l3_6), (2, .int l2_6), (0, .ref 98), (1, .int x1)]) (st := [.int 0, .int l2_6, .ref 10]) (h := ks ig13 ag13 qg13 rg13) (i := (.invokevirtual 60, 3, 17, 0, 9, 0, 187)) (mi_k52.2 _ _ (by rfl)) (ft_invS mi_pq17 (by rfl)) (cy := mi_c17) mi_pq17 rfl (kf17_10 hGg13.I hGg13.R l2_6 0) (kj_d3 (n := n) (c := 1) (o1 := 12) (by decide)) ?_
          intro vg14 ig14 ag14 qg14 rg14 kg14 hg14
          have hGg14 := kG_call hGg13 kg14 (by decide +kernel)
          have eRrg14_2 : rg14 2 = 10 := (kg14.fr 2 rfl).trans eRrg13_2
          obtain ⟨hg14, og14⟩ := hg14
          have fig13_643 : ((0 : Int) ≤ (ig13 643).toInt) ∧ ((ig13 643).toInt ≤ 121) := hGg13.I.1 643
          have fig14_643 : ((0 : Int) ≤ (ig14 643).toInt) ∧ ((ig14 643).toInt ≤ 121) := hGg14.I.1 643
          have z15 : (((ig13 643).toInt ≤ 120) ∧ ((ig14 643).toInt = ((ig13 643).toInt + 1))) ∨ (((121 : Int) ≤ (ig13 643).toInt) ∧ ((ig14 643).toInt = (ig13 643).toInt)) := hg14
          refine ft_go mi_k52 3 45 [(3, .int l3_6), (2, .int l2_6), (0, .ref 98), (1, .int x1)] [.ref (mi_RO + 13), .ref 98] ig14 ag14 qg14 rg14 (by rfl) ?_
          refine ko_callI mi_k52.1 (pc := 45) (ls := [(3, .int l3_6), (2, .int l2_6), (0, .ref 98), (1, .int x1)]) (st := [.ref (mi_RO + 13), .ref 98]) (h := ks ig14 ag14 qg14 rg14) (i := (.invokevirtual 78, 3, 47, 0, 9, 0, 189)) (mi_k52.2 _ _ (by rfl)) (ft_invS mi_pq47 (by rfl)) (cy := mi_c47) mi_pq47 rfl (ke47_98_1000013 hGg14.I hGg14.R t nn ((((((kg14.fa 99 rfl).trans (kg13.fa 99 rfl)).trans (hL6.fa 99 rfl)).trans (kg3.fa 99 rfl)).trans (kg2.fa 99 rfl)).trans hT) (((kg14.fi 6273 rfl).trans ((kg13.fi 6273 rfl).trans ((hL6.fi 6273 rfl).trans ((kg3.fi 6273 rfl).trans (kg2.fi 6273 rfl))))).trans hN) hX) (kj_d3 (n := n) (c := 9) (o1 := 12) (by decide)) ?_
          intro vg16 ig16 ag16 qg16 rg16 kg16 hg16
          have hGg16 := kG_call hGg14 kg16 (by decide +kernel)
          have eRrg16_2 : rg16 2 = 10 := (kg16.fr 2 rfl).trans eRrg14_2
          obtain ⟨hg16, og16⟩ := hg16
          have fig16_6274 : ((0 : Int) ≤ (ig16 6274).toInt) ∧ ((ig16 6274).toInt ≤ 120) := hGg16.I.1 6274
          have fig14_6274 : ((0 : Int) ≤ (ig14 6274).toInt) ∧ ((ig14 6274).toInt ≤ 120) := hGg14.I.1 6274
          have fig13_6274 : ((0 : Int) ≤ (ig13 6274).toInt) ∧ ((ig13 6274).toInt ≤ 120) := hGg13.I.1 6274
          have efig14_6274 : (ig14 6274).toInt = (ig13 6274).toInt := kg14.ti 6274 rfl
          have fig14_6273 : ((0 : Int) ≤ (ig14 6273).toInt) ∧ ((ig14 6273).toInt ≤ 120) := hGg14.I.1 6273
          have fig13_6273 : ((0 : Int) ≤ (ig13 6273).toInt) ∧ ((ig13 6273).toInt ≤ 120) := hGg13.I.1 6273
          have efig13_6273 : (ig13 6273).toInt = (i6 6273).toInt := kg13.ti 6273 rfl
          have efig14_6273 : (ig14 6273).toInt = (ig13 6273).toInt := kg14.ti 6273 rfl
          have fig14_6275 : ((0 : Int) ≤ (ig14 6275).toInt) ∧ ((ig14 6275).toInt ≤ 1) := hGg14.I.1 6275
          have fig13_6275 : ((0 : Int) ≤ (ig13 6275).toInt) ∧ ((ig13 6275).toInt ≤ 1) := hGg13.I.1 6275
          have efig14_6275 : (ig14 6275).toInt = (ig13 6275).toInt := kg14.ti 6275 rfl
          have z17 : ((vg16.toInt = (-1)) ∧ ((ig16 6274).toInt = (ig14 6274).toInt)) ∨ (((ig16 6274).toInt = ((ig14 6274).toInt + 1)) ∧ ((ig14 6274).toInt < (ig14 6273).toInt) ∧ ((ig14 6275).toInt = 0) ∧ ((vg16.toInt = 43) ∨ (vg16.toInt = 45))) := hg16
          have ho18 : vg16.toInt = (-1) ∨ vg16.toInt = (cHr t nn (ig14 6274) (ig14 6275)).toInt := tOf_v og16
          have s19 : (l3_6 + 1).toInt = l3_6.toInt + (1 : Int32).toInt := kd_add (op18 p6_0 kop1) (op117 c9 fi6_6273.2 kop1)
          refine ft_go mi_k52 3 14 [(3, .int (l3_6 + 1)), (2, .int vg16), (0, .ref 98), (1, .int x1)] [] ig16 ag16 qg16 rg16 (by rfl) ?_
          have fig16_6273 : ((0 : Int) ≤ (ig16 6273).toInt) ∧ ((ig16 6273).toInt ≤ 120) := hGg16.I.1 6273
          have efig16_6273 : (ig16 6273).toInt = (ig14 6273).toInt := kg16.ti 6273 rfl
          exact ih6 _ _ _ _ _ _ hGg16 (op20 p6_0 s19 kop1) (cLS_again O6_0 (kj_sub2 (n := nn.toInt) (op118 c9 efi6_6273 efig2_6273 efig3_6273 hn1) (op4 p6_0) (op30 s19 kop1)) (op119 c12 kopm1) og13 (tAdd og14.1 (kg14.fi 6274 rfl) (kg14.fi 6275 rfl)) (tOf og16 (kg16.fi 6275 rfl) (kT3 (kg16.fa 11 rfl) (kg16.fa 12 rfl) (kg16.fi 643 rfl)))) (kj_meas (op120 efig13_6273 efig14_6273 efig16_6273 s19 kop1) (op121 c9) hm6)
  exact lp6 _ _ _ _ _ _ _ (kG_self _ hGg3.I hGg3.R) (op36 kop0) (cLS_begin og2 (tOf og3 (kg3.fi 6275 rfl) (kT3 (kg3.fa 11 rfl) (kg3.fa 12 rfl) (kg3.fi 643 rfl))) (kj_sub00 kop0)) (Nat.lt_succ_self _)
set_option maxRecDepth 100000 in
theorem kMsP10_51 (n : Nat) (h54 : kMP10_54 n) (h53 : kMP10_53 n) (h52 : kMP10_52 n) : kMP10_51 n := by
  intro i a q r hI hr x1 hp0 t nn hT hN hL hX
  have hG := kG_self wP10 hI hr
  refine km_ofN (q := (mi_h51, mi_c51)) rfl (by decide) (Nat.le_of_ble_eq_true rfl) ?_
  intro P hP
  have hn0 : (0 : Int) ≤ (n : Int) := Int.natCast_nonneg n
  have hn1 : (i 6273).toInt = nn.toInt := congrArg Int32.toInt hN
  have eRr_2 : r 2 = 10 := hL
  refine ft_go mi_k51 2 2 [(0, .ref 98), (1, .int x1)] [.int x1, .ref 98] i a q r (by rfl) ?_
  refine ko_callN mi_k51.1 (pc := 2) (ls := [(0, .ref 98), (1, .int x1)]) (st := [.int x1, .ref 98]) (h := ks i a q r) (i := (.invokevirtual 73, 3, 52, 0, 9, 0, 181)) (mi_k51.2 _ _ (by rfl)) (ft_invS mi_pq52 (by rfl)) (cy := mi_c52) mi_pq52 rfl (h52 _ _ _ _ hG.I hG.R x1 (op105 hp0.1 hp0.2) t nn hT hN eRr_2 hX) (kj_d1 (n := n) (o := 12) (o1 := 13) (by decide)) ?_
  intro ig2 ag2 qg2 rg2 kg2 hg2
  have hGg2 := kG_call hG kg2 (by decide +kernel)
  have eRrg2_2 : rg2 2 = 10 := (kg2.fr 2 rfl).trans eRr_2
  obtain ⟨hg2, og2⟩ := hg2
  refine ft_go mi_k51 2 8 [(0, .ref 98), (1, .int x1)] [.ref (mi_RO + 14), .ref 98] ig2 ag2 qg2 rg2 (by rfl) ?_
  refine ko_callI mi_k51.1 (pc := 8) (ls := [(0, .ref 98), (1, .int x1)]) (st := [.ref (mi_RO + 14), .ref 98]) (h := ks ig2 ag2 qg2 rg2) (i := (.invokevirtual 78, 3, 47, 0, 9, 0, 189)) (mi_k51.2 _ _ (by rfl)) (ft_invS mi_pq47 (by rfl)) (cy := mi_c47) mi_pq47 rfl (ke47_98_1000014 hGg2.I hGg2.R t nn ((kg2.fa 99 rfl).trans hT) ((kg2.fi 6273 rfl).trans hN) hX) (kj_d3 (n := n) (c := 9) (o1 := 13) (by decide)) ?_
  intro vg3 ig3 ag3 qg3 rg3 kg3 hg3
  have hGg3 := kG_call hGg2 kg3 (by decide +kernel)
  have eRrg3_2 : rg3 2 = 10 := (kg3.fr 2 rfl).trans eRrg2_2
  obtain ⟨hg3, og3⟩ := hg3
  have fig3_6274 : ((0 : Int) ≤ (ig3 6274).toInt) ∧ ((ig3 6274).toInt ≤ 120) := hGg3.I.1 6274
  have fig2_6274 : ((0 : Int) ≤ (ig2 6274).toInt) ∧ ((ig2 6274).toInt ≤ 120) := hGg2.I.1 6274
  have fig2_6273 : ((0 : Int) ≤ (ig2 6273).toInt) ∧ ((ig2 6273).toInt ≤ 120) := hGg2.I.1 6273
  have fi_6273 : ((0 : Int) ≤ (i 6273).toInt) ∧ ((i 6273).toInt ≤ 120) := hG.I.1 6273
  have efig2_6273 : (ig2 6273).toInt = (i 6273).toInt := kg2.ti 6273 rfl
  have fig2_6275 : ((0 : Int) ≤ (ig2 6275).toInt) ∧ ((ig2 6275).toInt ≤ 1) := hGg2.I.1 6275
  have z4 : ((vg3.toInt = (-1)) ∧ ((ig3 6274).toInt = (ig2 6274).toInt)) ∨ (((ig3 6274).toInt = ((ig2 6274).toInt + 1)) ∧ ((ig2 6274).toInt < (ig2 6273).toInt) ∧ ((ig2 6275).toInt = 0) ∧ ((vg3.toInt = 60) ∨ (vg3.toInt = 61) ∨ (vg3.toInt = 62))) := hg3
  have ho5 : vg3.toInt = (-1) ∨ vg3.toInt = (cHr t nn (ig2 6274) (ig2 6275)).toInt := tOf_v og3
  refine ft_go mi_k51 3 14 [(2, .int vg3), (0, .ref 98), (1, .int x1)] [.int (-1), .int vg3] ig3 ag3 qg3 rg3 (by rfl) ?_
  refine ft_if mi_k51 (vg3 == (-1)) 32 17 [(2, .int vg3), (0, .ref 98), (1, .int x1)] [] (by rfl) (fun c => ?_) (fun c => ?_)
  ·
    have c6 : vg3.toInt = ((-1) : Int32).toInt := kd_eq c; clear c
    exact ft_ret mi_k51 (by rfl) (hP  _ _ _ _ hGg3 ⟨trivial, (cCm_out og2 (tOf og3 (kg3.fi 6275 rfl) (kT3 (kg3.fa 11 rfl) (kg3.fa 12 rfl) (kg3.fi 643 rfl))) (op64 c6 kopm1))⟩)
  ·
    have c7 : vg3.toInt ≠ ((-1) : Int32).toInt := kd_eqF c; clear c
    refine ft_go mi_k51 2 19 [(2, .int vg3), (0, .ref 98), (1, .int x1)] [.int x1, .ref 98] ig3 ag3 qg3 rg3 (by rfl) ?_
    refine ko_callN mi_k51.1 (pc := 19) (ls := [(2, .int vg3), (0, .ref 98), (1, .int x1)]) (st := [.int x1, .ref 98]) (h := ks ig3 ag3 qg3 rg3) (i := (.invokevirtual 73, 3, 52, 0, 9, 0, 181)) (mi_k51.2 _ _ (by rfl)) (ft_invS mi_pq52 (by rfl)) (cy := mi_c52) mi_pq52 rfl (h52 _ _ _ _ hGg3.I hGg3.R x1 (op105 hp0.1 hp0.2) t nn (((kg3.fa 99 rfl).trans (kg2.fa 99 rfl)).trans hT) (((kg3.fi 6273 rfl).trans (kg2.fi 6273 rfl)).trans hN) eRrg3_2 hX) (kj_d1 (n := n) (o := 12) (o1 := 13) (by decide)) ?_
    intro ig8 ag8 qg8 rg8 kg8 hg8
    have hGg8 := kG_call hGg3 kg8 (by decide +kernel)
    have eRrg8_2 : rg8 2 = 10 := (kg8.fr 2 rfl).trans eRrg3_2
    obtain ⟨hg8, og8⟩ := hg8
    refine ft_go mi_k51 2 26 [(2, .int vg3), (0, .ref 98), (1, .int x1)] [.ref (rg8 2)] ig8 ag8 qg8 rg8 (by rfl) ?_
    refine ko_eq (x1 := (26, [(2, .int vg3), (0, .ref 98), (1, .int x1)], [.ref 10], (0, 0), ks ig8 ag8 qg8 rg8)) (by rw [eRrg8_2]) ?_
    refine ft_go mi_k51 2 28 [(2, .int vg3), (0, .ref 98), (1, .int x1)] [.int 0, .int vg3, .ref 10] ig8 ag8 qg8 rg8 (by rfl) ?_
    refine ko_callI mi_k51.1 (pc := 28) (ls := [(2, .int vg3), (0, .ref 98), (1, .int x1)]) (st := [.int 0, .int vg3, .ref 10]) (h := ks ig8 ag8 qg8 rg8) (i := (.invokevirtual 60, 3, 17, 0, 9, 0, 187)) (mi_k51.2 _ _ (by rfl)) (ft_invS mi_pq17 (by rfl)) (cy := mi_c17) mi_pq17 rfl (kf17_10 hGg8.I hGg8.R vg3 0) (kj_d3 (n := n) (c := 1) (o1 := 13) (by decide)) ?_
    intro vg9 ig9 ag9 qg9 rg9 kg9 hg9
    have hGg9 := kG_call hGg8 kg9 (by decide +kernel)
    have eRrg9_2 : rg9 2 = 10 := (kg9.fr 2 rfl).trans eRrg8_2
    obtain ⟨hg9, og9⟩ := hg9
    have fig8_643 : ((0 : Int) ≤ (ig8 643).toInt) ∧ ((ig8 643).toInt ≤ 121) := hGg8.I.1 643
    have fig9_643 : ((0 : Int) ≤ (ig9 643).toInt) ∧ ((ig9 643).toInt ≤ 121) := hGg9.I.1 643
    have z10 : (((ig8 643).toInt ≤ 120) ∧ ((ig9 643).toInt = ((ig8 643).toInt + 1))) ∨ (((121 : Int) ≤ (ig8 643).toInt) ∧ ((ig9 643).toInt = (ig8 643).toInt)) := hg9
    refine ft_go mi_k51 1 32 [(2, .int vg3), (0, .ref 98), (1, .int x1)] [] ig9 ag9 qg9 rg9 (by rfl) ?_
    exact ft_ret mi_k51 (by rfl) (hP  _ _ _ _ hGg9 ⟨trivial, (cCm_in og2 (tOf og3 (kg3.fi 6275 rfl) (kT3 (kg3.fa 11 rfl) (kg3.fa 12 rfl) (kg3.fi 643 rfl))) (op142 c7 z4 kopm1) og8 (tAdd og9.1 (kg9.fi 6274 rfl) (kg9.fi 6275 rfl)))⟩)
set_option maxRecDepth 100000 in
theorem kMsP10_50 (n : Nat) (h54 : kMP10_54 n) (h53 : kMP10_53 n) (h52 : kMP10_52 n) (h51 : kMP10_51 n) : kMP10_50 n := by
  intro i a q r hI hr x1 hp0 t nn hT hN hL hX
  have hG := kG_self wP10 hI hr
  refine km_ofN (q := (mi_h50, mi_c50)) rfl (by decide) (Nat.le_of_ble_eq_true rfl) ?_
  intro P hP
  have hn0 : (0 : Int) ≤ (n : Int) := Int.natCast_nonneg n
  have hn1 : (i 6273).toInt = nn.toInt := congrArg Int32.toInt hN
  have eRr_2 : r 2 = 10 := hL
  refine ft_go mi_k50 2 2 [(0, .ref 98), (1, .int x1)] [.int x1, .ref 98] i a q r (by rfl) ?_
  refine ko_callN mi_k50.1 (pc := 2) (ls := [(0, .ref 98), (1, .int x1)]) (st := [.int x1, .ref 98]) (h := ks i a q r) (i := (.invokevirtual 70, 3, 51, 0, 9, 0, 180)) (mi_k50.2 _ _ (by rfl)) (ft_invS mi_pq51 (by rfl)) (cy := mi_c51) mi_pq51 rfl (h51 _ _ _ _ hG.I hG.R x1 (op105 hp0.1 hp0.2) t nn hT hN eRr_2 hX) (kj_d1 (n := n) (o := 13) (o1 := 14) (by decide)) ?_
  intro ig2 ag2 qg2 rg2 kg2 hg2
  have hGg2 := kG_call hG kg2 (by decide +kernel)
  have eRrg2_2 : rg2 2 = 10 := (kg2.fr 2 rfl).trans eRr_2
  obtain ⟨hg2, og2⟩ := hg2
  refine ft_go mi_k50 2 7 [(2, .int 0), (0, .ref 98), (1, .int x1)] [] ig2 ag2 qg2 rg2 (by rfl) ?_
  have lp3 : ∀ (nz : Nat) (i3 : Nat → Int32) (a3 : Nat → List Int32) (q3 : Nat → List Int64) (r3 : Nat → Nat) (l2_3 : Int32), kG yw50_98_L10_L7 ig2 ag2 qg2 rg2 i3 a3 q3 r3 → (0 : Int) ≤ l2_3.toInt → cLpB t nn (cP5 t nn (cO t nn n)) 38 (nn.toInt - l2_3.toInt).toNat (i3 6274, i3 6275, a3 11, a3 12, i3 643) = cBin t nn (cP5 t nn (cO t nn n)) 38 (i 6274, i 6275, a 11, a 12, i 643) → (((i3 6273).toInt - l2_3.toInt)).toNat < nz → ko (6 * n + 14) (mi_h50, mi_c50) P (7, [(2, .int l2_3), (0, .ref 98), (1, .int x1)], [], (0, 0), ks i3 a3 q3 r3) := by
    intro nz
    induction nz with
    | zero =>
      intro _ _ _ _ _ _ _ _ hm
      exact absurd hm (Nat.not_lt_zero _)
    | succ nz ih3 =>
      intro i3 a3 q3 r3 l2_3 hL3 p3_0 O3_0 hm3
      have fi3_6273 : ((0 : Int) ≤ (i3 6273).toInt) ∧ ((i3 6273).toInt ≤ 120) := hL3.I.1 6273
      have fig2_6273 : ((0 : Int) ≤ (ig2 6273).toInt) ∧ ((ig2 6273).toInt ≤ 120) := hGg2.I.1 6273
      have fi_6273 : ((0 : Int) ≤ (i 6273).toInt) ∧ ((i 6273).toInt ≤ 120) := hG.I.1 6273
      have efig2_6273 : (ig2 6273).toInt = (i 6273).toInt := kg2.ti 6273 rfl
      have efi3_6273 : (i3 6273).toInt = (ig2 6273).toInt := hL3.ti 6273 rfl
      have eRr3_2 : r3 2 = 10 := (hL3.fr 2 rfl).trans eRrg2_2
      refine ft_go mi_k50 3 12 [(2, .int l2_3), (0, .ref 98), (1, .int x1)] [.int (i3 6273), .int l2_3] i3 a3 q3 r3 (by rfl) ?_
      refine ft_if mi_k50 (decide ((i3 6273) ≤ l2_3)) 46 15 [(2, .int l2_3), (0, .ref 98), (1, .int x1)] [] (by rfl) (fun c => ?_) (fun c => ?_)
      ·
        have c4 : (i3 6273).toInt ≤ l2_3.toInt := kd_le c; clear c
        have hG5 := kG_call hGg2 hL3 (by decide +kernel)
        exact ft_ret mi_k50 (by rfl) (hP  _ _ _ _ hG5 ⟨trivial, (cLB_end O3_0 (kj_sub0 (n := nn.toInt) (op143 c4 efi3_6273 efig2_6273 hn1)))⟩)
      ·
        have c6 : l2_3.toInt < (i3 6273).toInt := kd_leF c; clear c
        refine ft_go mi_k50 2 18 [(2, .int l2_3), (0, .ref 98), (1, .int x1)] [.int 38, .ref 98] i3 a3 q3 r3 (by rfl) ?_
        refine ko_callI mi_k50.1 (pc := 18) (ls := [(2, .int l2_3), (0, .ref 98), (1, .int x1)]) (st := [.int 38, .ref 98]) (h := ks i3 a3 q3 r3) (i := (.invokevirtual 39, 3, 46, 0, 9, 0, 200)) (mi_k50.2 _ _ (by rfl)) (ft_invS mi_pq46 (by rfl)) (cy := mi_c46) mi_pq46 rfl (ke46_98 hL3.I hL3.R 38 (op144 kop38) t nn (((hL3.fa 99 rfl).trans (kg2.fa 99 rfl)).trans hT) (((hL3.fi 6273 rfl).trans (kg2.fi 6273 rfl)).trans hN) hX) (kj_d3 (n := n) (c := 3) (o1 := 14) (by decide)) ?_
        intro vg7 ig7 ag7 qg7 rg7 kg7 hg7
        have hGg7 := kG_call hL3 kg7 (by decide +kernel)
        have eRrg7_2 : rg7 2 = 10 := (kg7.fr 2 rfl).trans eRr3_2
        obtain ⟨hg7, og7⟩ := hg7
        have fig7_6274 : ((0 : Int) ≤ (ig7 6274).toInt) ∧ ((ig7 6274).toInt ≤ 120) := hGg7.I.1 6274
        have fi3_6274 : ((0 : Int) ≤ (i3 6274).toInt) ∧ ((i3 6274).toInt ≤ 120) := hL3.I.1 6274
        have fi3_6275 : ((0 : Int) ≤ (i3 6275).toInt) ∧ ((i3 6275).toInt ≤ 1) := hL3.I.1 6275
        have z8 : ((vg7.toInt = 1) ∧ ((ig7 6274).toInt = ((i3 6274).toInt + 1)) ∧ ((i3 6274).toInt < (i3 6273).toInt) ∧ ((i3 6275).toInt = 0)) ∨ ((vg7.toInt = 0) ∧ ((ig7 6274).toInt = (i3 6274).toInt)) := hg7
        refine ft_if mi_k50 (vg7 == 0) 46 24 [(2, .int l2_3), (0, .ref 98), (1, .int x1)] [] (by rfl) (fun c => ?_) (fun c => ?_)
        ·
          have c9 : vg7.toInt = (0 : Int32).toInt := kd_eq c; clear c
          have hG10 := kG_call hGg2 hGg7 (by decide +kernel)
          exact ft_ret mi_k50 (by rfl) (hP  _ _ _ _ hG10 ⟨trivial, (cLB_out O3_0 (kj_sub1 (n := nn.toInt) (op145 c6 efi3_6273 efig2_6273 hn1) (op4 p3_0)) (tTk og7 (kg7.fi 6275 rfl) (kT3 (kg7.fa 11 rfl) (kg7.fa 12 rfl) (kg7.fi 643 rfl))) (op98 c9 kop0))⟩)
        ·
          have c11 : vg7.toInt ≠ (0 : Int32).toInt := kd_eqF c; clear c
          refine ft_go mi_k50 2 26 [(2, .int l2_3), (0, .ref 98), (1, .int x1)] [.int x1, .ref 98] ig7 ag7 qg7 rg7 (by rfl) ?_
          refine ko_callN mi_k50.1 (pc := 26) (ls := [(2, .int l2_3), (0, .ref 98), (1, .int x1)]) (st := [.int x1, .ref 98]) (h := ks ig7 ag7 qg7 rg7) (i := (.invokevirtual 70, 3, 51, 0, 9, 0, 180)) (mi_k50.2 _ _ (by rfl)) (ft_invS mi_pq51 (by rfl)) (cy := mi_c51) mi_pq51 rfl (h51 _ _ _ _ hGg7.I hGg7.R x1 (op105 hp0.1 hp0.2) t nn ((((kg7.fa 99 rfl).trans (hL3.fa 99 rfl)).trans (kg2.fa 99 rfl)).trans hT) (((kg7.fi 6273 rfl).trans ((hL3.fi 6273 rfl).trans (kg2.fi 6273 rfl))).trans hN) eRrg7_2 hX) (kj_d1 (n := n) (o := 13) (o1 := 14) (by decide)) ?_
          intro ig12 ag12 qg12 rg12 kg12 hg12
          have hGg12 := kG_call hGg7 kg12 (by decide +kernel)
          have eRrg12_2 : rg12 2 = 10 := (kg12.fr 2 rfl).trans eRrg7_2
          obtain ⟨hg12, og12⟩ := hg12
          refine ft_go mi_k50 2 33 [(2, .int l2_3), (0, .ref 98), (1, .int x1)] [.ref (rg12 2)] ig12 ag12 qg12 rg12 (by rfl) ?_
          refine ko_eq (x1 := (33, [(2, .int l2_3), (0, .ref 98), (1, .int x1)], [.ref 10], (0, 0), ks ig12 ag12 qg12 rg12)) (by rw [eRrg12_2]) ?_
          refine ft_go mi_k50 2 36 [(2, .int l2_3), (0, .ref 98), (1, .int x1)] [.int 0, .int 38, .ref 10] ig12 ag12 qg12 rg12 (by rfl) ?_
          refine ko_callI mi_k50.1 (pc := 36) (ls := [(2, .int l2_3), (0, .ref 98), (1, .int x1)]) (st := [.int 0, .int 38, .ref 10]) (h := ks ig12 ag12 qg12 rg12) (i := (.invokevirtual 60, 3, 17, 0, 9, 0, 187)) (mi_k50.2 _ _ (by rfl)) (ft_invS mi_pq17 (by rfl)) (cy := mi_c17) mi_pq17 rfl (kf17_10 hGg12.I hGg12.R 38 0) (kj_d3 (n := n) (c := 1) (o1 := 14) (by decide)) ?_
          intro vg13 ig13 ag13 qg13 rg13 kg13 hg13
          have hGg13 := kG_call hGg12 kg13 (by decide +kernel)
          have eRrg13_2 : rg13 2 = 10 := (kg13.fr 2 rfl).trans eRrg12_2
          obtain ⟨hg13, og13⟩ := hg13
          have fig12_643 : ((0 : Int) ≤ (ig12 643).toInt) ∧ ((ig12 643).toInt ≤ 121) := hGg12.I.1 643
          have fig13_643 : ((0 : Int) ≤ (ig13 643).toInt) ∧ ((ig13 643).toInt ≤ 121) := hGg13.I.1 643
          have z14 : (((ig12 643).toInt ≤ 120) ∧ ((ig13 643).toInt = ((ig12 643).toInt + 1))) ∨ (((121 : Int) ≤ (ig12 643).toInt) ∧ ((ig13 643).toInt = (ig12 643).toInt)) := hg13
          have s15 : (l2_3 + 1).toInt = l2_3.toInt + (1 : Int32).toInt := kd_add (op18 p3_0 kop1) (op117 c6 fi3_6273.2 kop1)
          refine ft_go mi_k50 3 7 [(2, .int (l2_3 + 1)), (0, .ref 98), (1, .int x1)] [] ig13 ag13 qg13 rg13 (by rfl) ?_
          have fig13_6273 : ((0 : Int) ≤ (ig13 6273).toInt) ∧ ((ig13 6273).toInt ≤ 120) := hGg13.I.1 6273
          have fig12_6273 : ((0 : Int) ≤ (ig12 6273).toInt) ∧ ((ig12 6273).toInt ≤ 120) := hGg12.I.1 6273
          have fig7_6273 : ((0 : Int) ≤ (ig7 6273).toInt) ∧ ((ig7 6273).toInt ≤ 120) := hGg7.I.1 6273
          have efig7_6273 : (ig7 6273).toInt = (i3 6273).toInt := kg7.ti 6273 rfl
          have efig12_6273 : (ig12 6273).toInt = (ig7 6273).toInt := kg12.ti 6273 rfl
          have efig13_6273 : (ig13 6273).toInt = (ig12 6273).toInt := kg13.ti 6273 rfl
          exact ih3 _ _ _ _ _ hGg13 (op20 p3_0 s15 kop1) (cLB_again O3_0 (kj_sub2 (n := nn.toInt) (op145 c6 efi3_6273 efig2_6273 hn1) (op4 p3_0) (op30 s15 kop1)) (tTk og7 (kg7.fi 6275 rfl) (kT3 (kg7.fa 11 rfl) (kg7.fa 12 rfl) (kg7.fi 643 rfl))) (op146 c11 z8 kop0) og12 (tAdd og13.1 (kg13.fi 6274 rfl) (kg13.fi 6275 rfl))) (kj_meas (op147 efig12_6273 efig13_6273 efig7_6273 s15 kop1) (op121 c6) hm3)
  exact lp3 _ _ _ _ _ _ (kG_self _ hGg2.I hGg2.R) (op36 kop0) (cLB_begin og2 (kj_sub00 kop0)) (Nat.lt_succ_self _)
set_option maxRecDepth 100000 in
theorem kMsP10_49 (n : Nat) (h54 : kMP10_54 n) (h53 : kMP10_53 n) (h52 : kMP10_52 n) (h51 : kMP10_51 n) (h50 : kMP10_50 n) : kMP10_49 n := by
  intro i a q r hI hr x1 hp0 t nn hT hN hL hX
  have hG := kG_self wP10 hI hr
  refine km_ofN (q := (mi_h49, mi_c49)) rfl (by decide) (Nat.le_of_ble_eq_true rfl) ?_
  intro P hP
  have hn0 : (0 : Int) ≤ (n : Int) := Int.natCast_nonneg n
  have hn1 : (i 6273).toInt = nn.toInt := congrArg Int32.toInt hN
  have eRr_2 : r 2 = 10 := hL
  refine ft_go mi_k49 2 2 [(0, .ref 98), (1, .int x1)] [.int x1, .ref 98] i a q r (by rfl) ?_
  refine ko_callN mi_k49.1 (pc := 2) (ls := [(0, .ref 98), (1, .int x1)]) (st := [.int x1, .ref 98]) (h := ks i a q r) (i := (.invokevirtual 67, 3, 50, 0, 9, 0, 179)) (mi_k49.2 _ _ (by rfl)) (ft_invS mi_pq50 (by rfl)) (cy := mi_c50) mi_pq50 rfl (h50 _ _ _ _ hG.I hG.R x1 (op105 hp0.1 hp0.2) t nn hT hN eRr_2 hX) (kj_d1 (n := n) (o := 14) (o1 := 15) (by decide)) ?_
  intro ig2 ag2 qg2 rg2 kg2 hg2
  have hGg2 := kG_call hG kg2 (by decide +kernel)
  have eRrg2_2 : rg2 2 = 10 := (kg2.fr 2 rfl).trans eRr_2
  obtain ⟨hg2, og2⟩ := hg2
  refine ft_go mi_k49 2 7 [(2, .int 0), (0, .ref 98), (1, .int x1)] [] ig2 ag2 qg2 rg2 (by rfl) ?_
  have lp3 : ∀ (nz : Nat) (i3 : Nat → Int32) (a3 : Nat → List Int32) (q3 : Nat → List Int64) (r3 : Nat → Nat) (l2_3 : Int32), kG yw49_98_L10_L7 ig2 ag2 qg2 rg2 i3 a3 q3 r3 → (0 : Int) ≤ l2_3.toInt → cLpB t nn (cP6 t nn (cO t nn n)) 124 (nn.toInt - l2_3.toInt).toNat (i3 6274, i3 6275, a3 11, a3 12, i3 643) = cBin t nn (cP6 t nn (cO t nn n)) 124 (i 6274, i 6275, a 11, a 12, i 643) → (((i3 6273).toInt - l2_3.toInt)).toNat < nz → ko (6 * n + 15) (mi_h49, mi_c49) P (7, [(2, .int l2_3), (0, .ref 98), (1, .int x1)], [], (0, 0), ks i3 a3 q3 r3) := by
    intro nz
    induction nz with
    | zero =>
      intro _ _ _ _ _ _ _ _ hm
      exact absurd hm (Nat.not_lt_zero _)
    | succ nz ih3 =>
      intro i3 a3 q3 r3 l2_3 hL3 p3_0 O3_0 hm3
      have fi3_6273 : ((0 : Int) ≤ (i3 6273).toInt) ∧ ((i3 6273).toInt ≤ 120) := hL3.I.1 6273
      have fig2_6273 : ((0 : Int) ≤ (ig2 6273).toInt) ∧ ((ig2 6273).toInt ≤ 120) := hGg2.I.1 6273
      have fi_6273 : ((0 : Int) ≤ (i 6273).toInt) ∧ ((i 6273).toInt ≤ 120) := hG.I.1 6273
      have efig2_6273 : (ig2 6273).toInt = (i 6273).toInt := kg2.ti 6273 rfl
      have efi3_6273 : (i3 6273).toInt = (ig2 6273).toInt := hL3.ti 6273 rfl
      have eRr3_2 : r3 2 = 10 := (hL3.fr 2 rfl).trans eRrg2_2
      refine ft_go mi_k49 3 12 [(2, .int l2_3), (0, .ref 98), (1, .int x1)] [.int (i3 6273), .int l2_3] i3 a3 q3 r3 (by rfl) ?_
      refine ft_if mi_k49 (decide ((i3 6273) ≤ l2_3)) 46 15 [(2, .int l2_3), (0, .ref 98), (1, .int x1)] [] (by rfl) (fun c => ?_) (fun c => ?_)
      ·
        have c4 : (i3 6273).toInt ≤ l2_3.toInt := kd_le c; clear c
        have hG5 := kG_call hGg2 hL3 (by decide +kernel)
        exact ft_ret mi_k49 (by rfl) (hP  _ _ _ _ hG5 ⟨trivial, (cLB_end O3_0 (kj_sub0 (n := nn.toInt) (op143 c4 efi3_6273 efig2_6273 hn1)))⟩)
      ·
        have c6 : l2_3.toInt < (i3 6273).toInt := kd_leF c; clear c
        refine ft_go mi_k49 2 18 [(2, .int l2_3), (0, .ref 98), (1, .int x1)] [.int 124, .ref 98] i3 a3 q3 r3 (by rfl) ?_
        refine ko_callI mi_k49.1 (pc := 18) (ls := [(2, .int l2_3), (0, .ref 98), (1, .int x1)]) (st := [.int 124, .ref 98]) (h := ks i3 a3 q3 r3) (i := (.invokevirtual 39, 3, 46, 0, 9, 0, 200)) (mi_k49.2 _ _ (by rfl)) (ft_invS mi_pq46 (by rfl)) (cy := mi_c46) mi_pq46 rfl (ke46_98 hL3.I hL3.R 124 (op148 kop124) t nn (((hL3.fa 99 rfl).trans (kg2.fa 99 rfl)).trans hT) (((hL3.fi 6273 rfl).trans (kg2.fi 6273 rfl)).trans hN) hX) (kj_d3 (n := n) (c := 3) (o1 := 15) (by decide)) ?_
        intro vg7 ig7 ag7 qg7 rg7 kg7 hg7
        have hGg7 := kG_call hL3 kg7 (by decide +kernel)
        have eRrg7_2 : rg7 2 = 10 := (kg7.fr 2 rfl).trans eRr3_2
        obtain ⟨hg7, og7⟩ := hg7
        have fig7_6274 : ((0 : Int) ≤ (ig7 6274).toInt) ∧ ((ig7 6274).toInt ≤ 120) := hGg7.I.1 6274
        have fi3_6274 : ((0 : Int) ≤ (i3 6274).toInt) ∧ ((i3 6274).toInt ≤ 120) := hL3.I.1 6274
        have fi3_6275 : ((0 : Int) ≤ (i3 6275).toInt) ∧ ((i3 6275).toInt ≤ 1) := hL3.I.1 6275
        have z8 : ((vg7.toInt = 1) ∧ ((ig7 6274).toInt = ((i3 6274).toInt + 1)) ∧ ((i3 6274).toInt < (i3 6273).toInt) ∧ ((i3 6275).toInt = 0)) ∨ ((vg7.toInt = 0) ∧ ((ig7 6274).toInt = (i3 6274).toInt)) := hg7
        refine ft_if mi_k49 (vg7 == 0) 46 24 [(2, .int l2_3), (0, .ref 98), (1, .int x1)] [] (by rfl) (fun c => ?_) (fun c => ?_)
        ·
          have c9 : vg7.toInt = (0 : Int32).toInt := kd_eq c; clear c
          have hG10 := kG_call hGg2 hGg7 (by decide +kernel)
          exact ft_ret mi_k49 (by rfl) (hP  _ _ _ _ hG10 ⟨trivial, (cLB_out O3_0 (kj_sub1 (n := nn.toInt) (op145 c6 efi3_6273 efig2_6273 hn1) (op4 p3_0)) (tTk og7 (kg7.fi 6275 rfl) (kT3 (kg7.fa 11 rfl) (kg7.fa 12 rfl) (kg7.fi 643 rfl))) (op98 c9 kop0))⟩)
        ·
          have c11 : vg7.toInt ≠ (0 : Int32).toInt := kd_eqF c; clear c
          refine ft_go mi_k49 2 26 [(2, .int l2_3), (0, .ref 98), (1, .int x1)] [.int x1, .ref 98] ig7 ag7 qg7 rg7 (by rfl) ?_
          refine ko_callN mi_k49.1 (pc := 26) (ls := [(2, .int l2_3), (0, .ref 98), (1, .int x1)]) (st := [.int x1, .ref 98]) (h := ks ig7 ag7 qg7 rg7) (i := (.invokevirtual 67, 3, 50, 0, 9, 0, 179)) (mi_k49.2 _ _ (by rfl)) (ft_invS mi_pq50 (by rfl)) (cy := mi_c50) mi_pq50 rfl (h50 _ _ _ _ hGg7.I hGg7.R x1 (op105 hp0.1 hp0.2) t nn ((((kg7.fa 99 rfl).trans (hL3.fa 99 rfl)).trans (kg2.fa 99 rfl)).trans hT) (((kg7.fi 6273 rfl).trans ((hL3.fi 6273 rfl).trans (kg2.fi 6273 rfl))).trans hN) eRrg7_2 hX) (kj_d1 (n := n) (o := 14) (o1 := 15) (by decide)) ?_
          intro ig12 ag12 qg12 rg12 kg12 hg12
          have hGg12 := kG_call hGg7 kg12 (by decide +kernel)
          have eRrg12_2 : rg12 2 = 10 := (kg12.fr 2 rfl).trans eRrg7_2
          obtain ⟨hg12, og12⟩ := hg12
          refine ft_go mi_k49 2 33 [(2, .int l2_3), (0, .ref 98), (1, .int x1)] [.ref (rg12 2)] ig12 ag12 qg12 rg12 (by rfl) ?_
          refine ko_eq (x1 := (33, [(2, .int l2_3), (0, .ref 98), (1, .int x1)], [.ref 10], (0, 0), ks ig12 ag12 qg12 rg12)) (by rw [eRrg12_2]) ?_
          refine ft_go mi_k49 2 36 [(2, .int l2_3), (0, .ref 98), (1, .int x1)] [.int 0, .int 124, .ref 10] ig12 ag12 qg12 rg12 (by rfl) ?_
          refine ko_callI mi_k49.1 (pc := 36) (ls := [(2, .int l2_3), (0, .ref 98), (1, .int x1)]) (st := [.int 0, .int 124, .ref 10]) (h := ks ig12 ag12 qg12 rg12) (i := (.invokevirtual 60, 3, 17, 0, 9, 0, 187)) (mi_k49.2 _ _ (by rfl)) (ft_invS mi_pq17 (by rfl)) (cy := mi_c17) mi_pq17 rfl (kf17_10 hGg12.I hGg12.R 124 0) (kj_d3 (n := n) (c := 1) (o1 := 15) (by decide)) ?_
          intro vg13 ig13 ag13 qg13 rg13 kg13 hg13
          have hGg13 := kG_call hGg12 kg13 (by decide +kernel)
          have eRrg13_2 : rg13 2 = 10 := (kg13.fr 2 rfl).trans eRrg12_2
          obtain ⟨hg13, og13⟩ := hg13
          have fig12_643 : ((0 : Int) ≤ (ig12 643).toInt) ∧ ((ig12 643).toInt ≤ 121) := hGg12.I.1 643
          have fig13_643 : ((0 : Int) ≤ (ig13 643).toInt) ∧ ((ig13 643).toInt ≤ 121) := hGg13.I.1 643
          have z14 : (((ig12 643).toInt ≤ 120) ∧ ((ig13 643).toInt = ((ig12 643).toInt + 1))) ∨ (((121 : Int) ≤ (ig12 643).toInt) ∧ ((ig13 643).toInt = (ig12 643).toInt)) := hg13
          have s15 : (l2_3 + 1).toInt = l2_3.toInt + (1 : Int32).toInt := kd_add (op18 p3_0 kop1) (op117 c6 fi3_6273.2 kop1)
          refine ft_go mi_k49 3 7 [(2, .int (l2_3 + 1)), (0, .ref 98), (1, .int x1)] [] ig13 ag13 qg13 rg13 (by rfl) ?_
          have fig13_6273 : ((0 : Int) ≤ (ig13 6273).toInt) ∧ ((ig13 6273).toInt ≤ 120) := hGg13.I.1 6273
          have fig12_6273 : ((0 : Int) ≤ (ig12 6273).toInt) ∧ ((ig12 6273).toInt ≤ 120) := hGg12.I.1 6273
          have fig7_6273 : ((0 : Int) ≤ (ig7 6273).toInt) ∧ ((ig7 6273).toInt ≤ 120) := hGg7.I.1 6273
          have efig7_6273 : (ig7 6273).toInt = (i3 6273).toInt := kg7.ti 6273 rfl
          have efig12_6273 : (ig12 6273).toInt = (ig7 6273).toInt := kg12.ti 6273 rfl
          have efig13_6273 : (ig13 6273).toInt = (ig12 6273).toInt := kg13.ti 6273 rfl
          exact ih3 _ _ _ _ _ hGg13 (op20 p3_0 s15 kop1) (cLB_again O3_0 (kj_sub2 (n := nn.toInt) (op145 c6 efi3_6273 efig2_6273 hn1) (op4 p3_0) (op30 s15 kop1)) (tTk og7 (kg7.fi 6275 rfl) (kT3 (kg7.fa 11 rfl) (kg7.fa 12 rfl) (kg7.fi 643 rfl))) (op146 c11 z8 kop0) og12 (tAdd og13.1 (kg13.fi 6274 rfl) (kg13.fi 6275 rfl))) (kj_meas (op147 efig12_6273 efig13_6273 efig7_6273 s15 kop1) (op121 c6) hm3)
  exact lp3 _ _ _ _ _ _ (kG_self _ hGg2.I hGg2.R) (op36 kop0) (cLB_begin og2 (kj_sub00 kop0)) (Nat.lt_succ_self _)
theorem kMallP10 : ∀ n : Nat, kMP10_49 n ∧ kMP10_54 n
  | 0 => by
    have ih : ∀ m, 0 = m + 1 → kMP10_49 m ∧ kMP10_54 m := fun m h => by omega
    have h54 := kMsP10_54 0  ih
    have h53 := kMsP10_53 0 h54
    have h52 := kMsP10_52 0 h54 h53
    have h51 := kMsP10_51 0 h54 h53 h52
    have h50 := kMsP10_50 0 h54 h53 h52 h51
    have h49 := kMsP10_49 0 h54 h53 h52 h51 h50
    exact ⟨h49, h54⟩
  | n + 1 => by
    have ih : ∀ m, n + 1 = m + 1 → kMP10_49 m ∧ kMP10_54 m := fun m h => by
      have e : n = m := by omega
      subst e
      exact kMallP10 n
    have h54 := kMsP10_54 (n + 1)  ih
    have h53 := kMsP10_53 (n + 1) h54
    have h52 := kMsP10_52 (n + 1) h54 h53
    have h51 := kMsP10_51 (n + 1) h54 h53 h52
    have h50 := kMsP10_50 (n + 1) h54 h53 h52 h51
    have h49 := kMsP10_49 (n + 1) h54 h53 h52 h51 h50
    exact ⟨h49, h54⟩
def zw18_10 : kW := ([], [12], [], [])
set_option maxRecDepth 100000 in
theorem kf18_10 {i : Nat → Int32} {a : Nat → List Int32} {q : Nat → List Int64} {r : Nat → Nat} (hI : kI i a q) (hr : kr r) (x1 : Int32) : km 1 18 [.ref 10, .int x1] (ks i a q r) (kVN zw18_10 i a q r (fun i1 a1 q1 r1 => ((i1 643).toInt = (i 643).toInt) ∧ (a1 11, a1 12, i1 643) = lAim x1 (a 11, a 12, i 643))) := by
  have hG := kG_self zw18_10 hI hr
  refine km_ofN (q := (mi_h18, mi_c18)) rfl (by decide) (Nat.le_of_ble_eq_true rfl) ?_
  intro P hP
  refine ft_go mi_k18 1 1 [(0, .ref 10), (1, .int x1)] [.int x1] i a q r (by rfl) ?_
  refine ft_if mi_k18 (decide (x1 < 0)) 22 4 [(0, .ref 10), (1, .int x1)] [] (by rfl) (fun c => ?_) (fun c => ?_)
  ·
    have c1 : x1.toInt < (0 : Int32).toInt := kd_lt c; clear c
    have fi_643 : ((0 : Int) ≤ (i 643).toInt) ∧ ((i 643).toInt ≤ 121) := hG.I.1 643
    exact ft_ret mi_k18 (by rfl) (hP  _ _ _ _ hG ⟨op150, ((show (a 11, a 12, i 643) = (a 11, a 12, i 643) from rfl).trans (if_neg (op151 c1 kop0)).symm)⟩)
  ·
    have c2 : (0 : Int32).toInt ≤ x1.toInt := kd_ltF c; clear c
    have fi_643 : ((0 : Int) ≤ (i 643).toInt) ∧ ((i 643).toInt ≤ 121) := hG.I.1 643
    refine ft_go mi_k18 3 9 [(0, .ref 10), (1, .int x1)] [.int (i 643), .int x1] i a q r (by rfl) ?_
    refine ft_if mi_k18 (decide ((i 643) ≤ x1)) 22 12 [(0, .ref 10), (1, .int x1)] [] (by rfl) (fun c => ?_) (fun c => ?_)
    ·
      have c3 : (i 643).toInt ≤ x1.toInt := kd_le c; clear c
      exact ft_ret mi_k18 (by rfl) (hP  _ _ _ _ hG ⟨op150, ((show (a 11, a 12, i 643) = (a 11, a 12, i 643) from rfl).trans (if_neg (op152 c3)).symm)⟩)
    ·
      have c4 : x1.toInt < (i 643).toInt := kd_leF c; clear c
      refine ft_go mi_k18 5 21 [(0, .ref 10), (1, .int x1)] [.int (i 643), .int x1, .ref 12] i a q r (by rfl) ?_
      refine ko_iast3 mi_k18.1 (n := 121) (c := 121) (ax := (0, 0, 0, 0, 0)) (mi_k18.2 _ _ (by rfl)) (by rfl) (ksG12 _ _ _ _) (ksA12 _ _ _ _) (hG.I.2.1 12) rfl (op153 c2 kop0) (op154 c4 fi_643.2) ?_
      intro a5 ea5 fa5
      have hJ5 := kG_a3 hG 12 rfl ea5 fa5 (kd_bd _)
      exact ft_ret mi_k18 (by rfl) (hP  _ _ _ _ hJ5 ⟨op150, ((show (a5 11, a5 12, i 643) = (a 11, (a 12).set x1.toNatClampNeg (i 643), i 643) from by rw [fa5 11 (by decide), ea5]).trans (if_pos ⟨(op153 c2 kop0), (op155 c4)⟩).symm)⟩)
def yw48_98_L10 : kW := ([643, 6274, 6275], [11, 12], [], [])
