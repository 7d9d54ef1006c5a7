set_option maxRecDepth 100000 in
theorem ke48_98_L10 {i : Nat → Int32} {a : Nat → List Int32} {q : Nat → List Int64} {r : Nat → Nat} (hI : kI i a q) (hr : kr r) (t : List Int32) (nn : Int32) (hT : a 99 = t) (hN : i 6273 = nn) (hL : r 2 = 10) (hX : kBy t) : km 53 48 [.ref 98] (ks i a q r) (kVN yw48_98_L10 i a q r (fun i1 a1 q1 r1 => (True) ∧ (i1 6274, i1 6275, a1 11, a1 12, i1 643) = cLin t nn (i 6274, i 6275, a 11, a 12, i 643))) := by
  have hG := kG_self yw48_98_L10 hI hr
  refine km_ofN (q := (mi_h48, mi_c48)) rfl (by decide) (Nat.le_of_ble_eq_true rfl) ?_
  intro P hP
  have hn1 : (i 6273).toInt = nn.toInt := congrArg Int32.toInt hN
  have eRr_2 : r 2 = 10 := hL
  refine ft_go mi_k48 2 2 [(0, .ref 98)] [.int 0, .ref 98] i a q r (by rfl) ?_
  have nn0 := kop0
  refine ko_callN mi_k48.1 (pc := 2) (ls := [(0, .ref 98)]) (st := [.int 0, .ref 98]) (h := ks i a q r) (i := (.invokevirtual 56, 3, 49, 0, 9, 0, 178)) (mi_k48.2 _ _ (by rfl)) (ft_invS mi_pq49 (by rfl)) (cy := mi_c49) mi_pq49 rfl ((kMallP10 6).1 _ _ _ _ hG.I hG.R 0 (by have := kop0; omega) t nn hT hN eRr_2 hX) (by decide) ?_
  intro ig2 ag2 qg2 rg2 kg2 hg2
  have hGg2 := kG_call hG kg2 (by decide +kernel)
  have eRrg2_2 : rg2 2 = 10 := (kg2.fr 2 rfl).trans eRr_2
  obtain ⟨hg2, og2⟩ := hg2
  refine ft_go mi_k48 2 8 [(0, .ref 98)] [.int 63, .ref 98] ig2 ag2 qg2 rg2 (by rfl) ?_
  refine ko_callI mi_k48.1 (pc := 8) (ls := [(0, .ref 98)]) (st := [.int 63, .ref 98]) (h := ks ig2 ag2 qg2 rg2) (i := (.invokevirtual 39, 3, 46, 0, 9, 0, 200)) (mi_k48.2 _ _ (by rfl)) (ft_invS mi_pq46 (by rfl)) (cy := mi_c46) mi_pq46 rfl (ke46_98 hGg2.I hGg2.R 63 (op149 kop63) t nn ((kg2.fa 99 rfl).trans hT) ((kg2.fi 6273 rfl).trans hN) hX) (by decide) ?_
  intro vg3 ig3 ag3 qg3 rg3 kg3 hg3
  have hGg3 := kG_call hGg2 kg3 (by decide +kernel)
  have eRrg3_2 : rg3 2 = 10 := (kg3.fr 2 rfl).trans eRrg2_2
  obtain ⟨hg3, og3⟩ := hg3
  have fig3_6274 : ((0 : Int) ≤ (ig3 6274).toInt) ∧ ((ig3 6274).toInt ≤ 120) := hGg3.I.1 6274
  have fig2_6274 : ((0 : Int) ≤ (ig2 6274).toInt) ∧ ((ig2 6274).toInt ≤ 120) := hGg2.I.1 6274
  have fig2_6273 : ((0 : Int) ≤ (ig2 6273).toInt) ∧ ((ig2 6273).toInt ≤ 120) := hGg2.I.1 6273
  have fi_6273 : ((0 : Int) ≤ (i 6273).toInt) ∧ ((i 6273).toInt ≤ 120) := hG.I.1 6273
  have efig2_6273 : (ig2 6273).toInt = (i 6273).toInt := kg2.ti 6273 rfl
  have fig2_6275 : ((0 : Int) ≤ (ig2 6275).toInt) ∧ ((ig2 6275).toInt ≤ 1) := hGg2.I.1 6275
  have z4 : ((vg3.toInt = 1) ∧ ((ig3 6274).toInt = ((ig2 6274).toInt + 1)) ∧ ((ig2 6274).toInt < (ig2 6273).toInt) ∧ ((ig2 6275).toInt = 0)) ∨ ((vg3.toInt = 0) ∧ ((ig3 6274).toInt = (ig2 6274).toInt)) := hg3
  refine ft_if mi_k48 (vg3 == 0) 50 14 [(0, .ref 98)] [] (by rfl) (fun c => ?_) (fun c => ?_)
  ·
    have c5 : vg3.toInt = (0 : Int32).toInt := kd_eq c; clear c
    refine ft_go mi_k48 2 54 [(0, .ref 98)] [.ref (rg3 2)] ig3 ag3 qg3 rg3 (by rfl) ?_
    refine ko_eq (x1 := (54, [(0, .ref 98)], [.ref 10], (0, 0), ks ig3 ag3 qg3 rg3)) (by rw [eRrg3_2]) ?_
    refine ft_go mi_k48 2 56 [(0, .ref 98)] [.int 0, .int 2, .ref 10] ig3 ag3 qg3 rg3 (by rfl) ?_
    refine ko_callI mi_k48.1 (pc := 56) (ls := [(0, .ref 98)]) (st := [.int 0, .int 2, .ref 10]) (h := ks ig3 ag3 qg3 rg3) (i := (.invokevirtual 60, 3, 17, 0, 9, 0, 187)) (mi_k48.2 _ _ (by rfl)) (ft_invS mi_pq17 (by rfl)) (cy := mi_c17) mi_pq17 rfl (kf17_10 hGg3.I hGg3.R 2 0) (by decide) ?_
    intro vg6 ig6 ag6 qg6 rg6 kg6 hg6
    have hGg6 := kG_call hGg3 kg6 (by decide +kernel)
    have eRrg6_2 : rg6 2 = 10 := (kg6.fr 2 rfl).trans eRrg3_2
    obtain ⟨hg6, og6⟩ := hg6
    have fig3_643 : ((0 : Int) ≤ (ig3 643).toInt) ∧ ((ig3 643).toInt ≤ 121) := hGg3.I.1 643
    have fig2_643 : ((0 : Int) ≤ (ig2 643).toInt) ∧ ((ig2 643).toInt ≤ 121) := hGg2.I.1 643
    have efig3_643 : (ig3 643).toInt = (ig2 643).toInt := kg3.ti 643 rfl
    have fig6_643 : ((0 : Int) ≤ (ig6 643).toInt) ∧ ((ig6 643).toInt ≤ 121) := hGg6.I.1 643
    have z7 : (((ig3 643).toInt ≤ 120) ∧ ((ig6 643).toInt = ((ig3 643).toInt + 1))) ∨ (((121 : Int) ≤ (ig3 643).toInt) ∧ ((ig6 643).toInt = (ig3 643).toInt)) := hg6
    refine ft_go mi_k48 1 60 [(0, .ref 98)] [] ig6 ag6 qg6 rg6 (by rfl) ?_
    exact ft_ret mi_k48 (by rfl) (hP  _ _ _ _ hGg6 ⟨trivial, (cLi_one og2 (tTk og3 (kg3.fi 6275 rfl) (kT3 (kg3.fa 11 rfl) (kg3.fa 12 rfl) (kg3.fi 643 rfl))) (op98 c5 kop0) (tAdd og6.1 (kg6.fi 6274 rfl) (kg6.fi 6275 rfl)))⟩)
  ·
    have c8 : vg3.toInt ≠ (0 : Int32).toInt := kd_eqF c; clear c
    refine ft_go mi_k48 2 18 [(0, .ref 98)] [.ref (rg3 2)] ig3 ag3 qg3 rg3 (by rfl) ?_
    refine ko_eq (x1 := (18, [(0, .ref 98)], [.ref 10], (0, 0), ks ig3 ag3 qg3 rg3)) (by rw [eRrg3_2]) ?_
    refine ft_go mi_k48 2 20 [(0, .ref 98)] [.int 0, .int 3, .ref 10] ig3 ag3 qg3 rg3 (by rfl) ?_
    refine ko_callI mi_k48.1 (pc := 20) (ls := [(0, .ref 98)]) (st := [.int 0, .int 3, .ref 10]) (h := ks ig3 ag3 qg3 rg3) (i := (.invokevirtual 60, 3, 17, 0, 9, 0, 187)) (mi_k48.2 _ _ (by rfl)) (ft_invS mi_pq17 (by rfl)) (cy := mi_c17) mi_pq17 rfl (kf17_10 hGg3.I hGg3.R 3 0) (by decide) ?_
    intro vg9 ig9 ag9 qg9 rg9 kg9 hg9
    have hGg9 := kG_call hGg3 kg9 (by decide +kernel)
    have eRrg9_2 : rg9 2 = 10 := (kg9.fr 2 rfl).trans eRrg3_2
    obtain ⟨hg9, og9⟩ := hg9
    have fig3_643 : ((0 : Int) ≤ (ig3 643).toInt) ∧ ((ig3 643).toInt ≤ 121) := hGg3.I.1 643
    have fig2_643 : ((0 : Int) ≤ (ig2 643).toInt) ∧ ((ig2 643).toInt ≤ 121) := hGg2.I.1 643
    have efig3_643 : (ig3 643).toInt = (ig2 643).toInt := kg3.ti 643 rfl
    have fig9_643 : ((0 : Int) ≤ (ig9 643).toInt) ∧ ((ig9 643).toInt ≤ 121) := hGg9.I.1 643
    have z10 : (((ig3 643).toInt ≤ 120) ∧ ((ig9 643).toInt = ((ig3 643).toInt + 1))) ∨ (((121 : Int) ≤ (ig3 643).toInt) ∧ ((ig9 643).toInt = (ig3 643).toInt)) := hg9
    refine ft_go mi_k48 3 26 [(1, .int vg9), (0, .ref 98)] [.int 0, .ref 98] ig9 ag9 qg9 rg9 (by rfl) ?_
    have nn0 := kop0
    refine ko_callN mi_k48.1 (pc := 26) (ls := [(1, .int vg9), (0, .ref 98)]) (st := [.int 0, .ref 98]) (h := ks ig9 ag9 qg9 rg9) (i := (.invokevirtual 56, 3, 49, 0, 9, 0, 178)) (mi_k48.2 _ _ (by rfl)) (ft_invS mi_pq49 (by rfl)) (cy := mi_c49) mi_pq49 rfl ((kMallP10 6).1 _ _ _ _ hGg9.I hGg9.R 0 (by have := kop0; omega) t nn ((((kg9.fa 99 rfl).trans (kg3.fa 99 rfl)).trans (kg2.fa 99 rfl)).trans hT) (((kg9.fi 6273 rfl).trans ((kg3.fi 6273 rfl).trans (kg2.fi 6273 rfl))).trans hN) eRrg9_2 hX) (by decide) ?_
    intro ig11 ag11 qg11 rg11 kg11 hg11
    have hGg11 := kG_call hGg9 kg11 (by decide +kernel)
    have eRrg11_2 : rg11 2 = 10 := (kg11.fr 2 rfl).trans eRrg9_2
    obtain ⟨hg11, og11⟩ := hg11
    refine ft_go mi_k48 2 33 [(1, .int vg9), (0, .ref 98)] [.ref (rg11 2)] ig11 ag11 qg11 rg11 (by rfl) ?_
    refine ko_eq (x1 := (33, [(1, .int vg9), (0, .ref 98)], [.ref 10], (0, 0), ks ig11 ag11 qg11 rg11)) (by rw [eRrg11_2]) ?_
    refine ft_go mi_k48 2 35 [(1, .int vg9), (0, .ref 98)] [.int 0, .int 2, .ref 10] ig11 ag11 qg11 rg11 (by rfl) ?_
    refine ko_callI mi_k48.1 (pc := 35) (ls := [(1, .int vg9), (0, .ref 98)]) (st := [.int 0, .int 2, .ref 10]) (h := ks ig11 ag11 qg11 rg11) (i := (.invokevirtual 60, 3, 17, 0, 9, 0, 187)) (mi_k48.2 _ _ (by rfl)) (ft_invS mi_pq17 (by rfl)) (cy := mi_c17) mi_pq17 rfl (kf17_10 hGg11.I hGg11.R 2 0) (by decide) ?_
    intro vg12 ig12 ag12 qg12 rg12 kg12 hg12
    have hGg12 := kG_call hGg11 kg12 (by decide +kernel)
    have eRrg12_2 : rg12 2 = 10 := (kg12.fr 2 rfl).trans eRrg11_2
    obtain ⟨hg12, og12⟩ := hg12
    have fig11_643 : ((0 : Int) ≤ (ig11 643).toInt) ∧ ((ig11 643).toInt ≤ 121) := hGg11.I.1 643
    have fig12_643 : ((0 : Int) ≤ (ig12 643).toInt) ∧ ((ig12 643).toInt ≤ 121) := hGg12.I.1 643
    have z13 : (((ig11 643).toInt ≤ 120) ∧ ((ig12 643).toInt = ((ig11 643).toInt + 1))) ∨ (((121 : Int) ≤ (ig11 643).toInt) ∧ ((ig12 643).toInt = (ig11 643).toInt)) := hg12
    refine ft_go mi_k48 3 43 [(1, .int vg9), (0, .ref 98)] [.ref (rg12 2)] ig12 ag12 qg12 rg12 (by rfl) ?_
    refine ko_eq (x1 := (43, [(1, .int vg9), (0, .ref 98)], [.ref 10], (0, 0), ks ig12 ag12 qg12 rg12)) (by rw [eRrg12_2]) ?_
    refine ft_go mi_k48 1 44 [(1, .int vg9), (0, .ref 98)] [.int vg9, .ref 10] ig12 ag12 qg12 rg12 (by rfl) ?_
    refine ko_callN mi_k48.1 (pc := 44) (ls := [(1, .int vg9), (0, .ref 98)]) (st := [.int vg9, .ref 10]) (h := ks ig12 ag12 qg12 rg12) (i := (.invokevirtual 64, 3, 18, 0, 9, 0, 204)) (mi_k48.2 _ _ (by rfl)) (ft_invS mi_pq18 (by rfl)) (cy := mi_c18) mi_pq18 rfl (kf18_10 hGg12.I hGg12.R vg9) (by decide) ?_
    intro ig14 ag14 qg14 rg14 kg14 hg14
    have hGg14 := kG_call hGg12 kg14 (by decide +kernel)
    have eRrg14_2 : rg14 2 = 10 := (kg14.fr 2 rfl).trans eRrg12_2
    obtain ⟨hg14, og14⟩ := hg14
    have fig14_643 : ((0 : Int) ≤ (ig14 643).toInt) ∧ ((ig14 643).toInt ≤ 121) := hGg14.I.1 643
    have efig14_643 : (ig14 643).toInt = (ig12 643).toInt := kg14.ti 643 rfl
    have z15 : (ig14 643).toInt = (ig12 643).toInt := hg14
    refine ft_go mi_k48 1 60 [(1, .int vg9), (0, .ref 98)] [] ig14 ag14 qg14 rg14 (by rfl) ?_
    exact ft_ret mi_k48 (by rfl) (hP  _ _ _ _ hGg14 ⟨trivial, (cLi_two og2 (tTk og3 (kg3.fi 6275 rfl) (kT3 (kg3.fa 11 rfl) (kg3.fa 12 rfl) (kg3.fi 643 rfl))) (op96 c8 z4 kop0) (tAdd og9.1 (kg9.fi 6274 rfl) (kg9.fi 6275 rfl)) (cLi_2 og9.2 og11 (tAdd og12.1 (kg12.fi 6274 rfl) (kg12.fi 6275 rfl)) (tAim og14 (kg14.fi 6274 rfl) (kg14.fi 6275 rfl))))⟩)
def zw16_10 : kW := ([640, 643], [], [], [])
set_option maxRecDepth 100000 in
theorem kf16_10 {i : Nat → Int32} {a : Nat → List Int32} {q : Nat → List Int64} {r : Nat → Nat} (hI : kI i a q) (hr : kr r)  : km 1 16 [.ref 10] (ks i a q r) (kVN zw16_10 i a q r (fun i1 a1 q1 r1 => (True) ∧ (i1 640 = 0 ∧ i1 643 = 0))) := by
  have hG := kG_self zw16_10 hI hr
  refine km_ofN (q := (mi_h16, mi_c16)) rfl (by decide) (Nat.le_of_ble_eq_true rfl) ?_
  intro P hP
  have hJ1 := kG_i hG 640 rfl (v := 0) ⟨(op36 kop0), (op157 kop0)⟩
  have hJ2 := kG_i hJ1 643 rfl (v := 0) ⟨(op36 kop0), (op158 kop0)⟩
  refine ft_go mi_k16 6 10 [(0, .ref 10)] [] (ku (ku i 640 0) 643 0) a q r (by rfl) ?_
  exact ft_ret mi_k16 (by rfl) (hP  _ _ _ _ hJ2 ⟨trivial, ⟨(show (0 : Int32) = 0 from (by first | rfl | (simp only [sMn, sMx]; done) | (simp only [sMn, sMx]; rfl))), (show (0 : Int32) = 0 from (by first | rfl | (simp only [sMn, sMx]; done) | (simp only [sMn, sMx]; rfl)))⟩⟩)
def yw44_98_L10 : kW := ([640, 643, 6274, 6275], [11, 12], [], [])
def yw44_98_L10_L23 : kW := ([643, 6274, 6275], [11, 12], [], [])
set_option maxRecDepth 100000 in
theorem ke44_98_L10 {i : Nat → Int32} {a : Nat → List Int32} {q : Nat → List Int64} {r : Nat → Nat} (hI : kI i a q) (hr : kr r) (t : List Int32) (nn : Int32) (hT : a 99 = t) (hN : i 6273 = nn) (hL : r 2 = 10) (hX : kBy t) : km 55 44 [.ref 98] (ks i a q r) (kVI yw44_98_L10 i a q r (fun v i1 a1 q1 r1 => ((v.toInt = (-1)) ∨ ((0 : Int) ≤ v.toInt)) ∧ ((cOk nn (cTxt t nn (a 11) (a 12)) ∧ v = -1 ∧ i1 640 = 1 ∧ (a1 11, a1 12, i1 643) = (cTxt t nn (a 11) (a 12)).2.2) ∨ (¬ cOk nn (cTxt t nn (a 11) (a 12)) ∧ v = (cTxt t nn (a 11) (a 12)).1 ∧ 0 ≤ v.toInt)))) := by
  have hG := kG_self yw44_98_L10 hI hr
  refine km_ofI (q := (mi_h44, mi_c44)) rfl (by decide) (Nat.le_of_ble_eq_true rfl) ?_
  intro P hP
  have hn1 : (i 6273).toInt = nn.toInt := congrArg Int32.toInt hN
  have eRr_2 : r 2 = 10 := hL
  have hJ2 := kG_i hG 6274 rfl (v := 0) ⟨(op36 kop0), (op156 kop0)⟩
  have hJ3 := kG_i hJ2 6275 rfl (v := 0) ⟨(op36 kop0), (op157 kop0)⟩
  refine ft_go mi_k44 8 14 [(0, .ref 98)] [.ref (r 2)] (ku (ku i 6274 0) 6275 0) a q r (by rfl) ?_
  refine ko_eq (x1 := (14, [(0, .ref 98)], [.ref 10], (0, 0), ks (ku (ku i 6274 0) 6275 0) a q r)) (by rw [eRr_2]) ?_
  refine ko_callN mi_k44.1 (pc := 14) (ls := [(0, .ref 98)]) (st := [.ref 10]) (h := ks (ku (ku i 6274 0) 6275 0) a q r) (i := (.invokevirtual 33, 3, 16, 0, 9, 0, 176)) (mi_k44.2 _ _ (by rfl)) (ft_invS mi_pq16 (by rfl)) (cy := mi_c16) mi_pq16 rfl (kf16_10 hJ3.I hJ3.R ) (by decide) ?_
  intro ig4 ag4 qg4 rg4 kg4 hg4
  have hGg4 := kG_call hJ3 kg4 (by decide +kernel)
  have eRrg4_2 : rg4 2 = 10 := (kg4.fr 2 rfl).trans eRr_2
  obtain ⟨hg4, og4⟩ := hg4
  have q5 : ig4 640 = 0 := og4.1
  have q6 : ig4 643 = 0 := og4.2
  refine ft_go mi_k44 1 18 [(0, .ref 98)] [.ref 98] ig4 ag4 qg4 rg4 (by rfl) ?_
  refine ko_callN mi_k44.1 (pc := 18) (ls := [(0, .ref 98)]) (st := [.ref 98]) (h := ks ig4 ag4 qg4 rg4) (i := (.invokevirtual 36, 3, 48, 0, 9, 0, 177)) (mi_k44.2 _ _ (by rfl)) (ft_invS mi_pq48 (by rfl)) (cy := mi_c48) mi_pq48 rfl (ke48_98_L10 hGg4.I hGg4.R t nn ((kg4.fa 99 rfl).trans hT) ((kg4.fi 6273 rfl).trans hN) eRrg4_2 hX) (by decide) ?_
  intro ig7 ag7 qg7 rg7 kg7 hg7
  have hGg7 := kG_call hGg4 kg7 (by decide +kernel)
  have eRrg7_2 : rg7 2 = 10 := (kg7.fr 2 rfl).trans eRrg4_2
  obtain ⟨hg7, og7⟩ := hg7
  refine ft_go mi_k44 2 23 [(1, .int 0), (0, .ref 98)] [] ig7 ag7 qg7 rg7 (by rfl) ?_
  have lp8 : ∀ (nz : Nat) (i8 : Nat → Int32) (a8 : Nat → List Int32) (q8 : Nat → List Int64) (r8 : Nat → Nat) (l1_8 : Int32), kG yw44_98_L10_L23 ig7 ag7 qg7 rg7 i8 a8 q8 r8 → (0 : Int) ≤ l1_8.toInt → cLpL t nn (nn.toInt - l1_8.toInt).toNat (i8 6274, i8 6275, a8 11, a8 12, i8 643) = (cTxt t nn (a 11) (a 12)) → (((i8 6273).toInt - l1_8.toInt)).toNat < nz → ko 55 (mi_h44, mi_c44) P (23, [(1, .int l1_8), (0, .ref 98)], [], (0, 0), ks i8 a8 q8 r8) := by
    intro nz
    induction nz with
    | zero =>
      intro _ _ _ _ _ _ _ _ hm
      exact absurd hm (Nat.not_lt_zero _)
    | succ nz ih8 =>
      intro i8 a8 q8 r8 l1_8 hL8 p8_0 O8_0 hm8
      have fi8_6273 : ((0 : Int) ≤ (i8 6273).toInt) ∧ ((i8 6273).toInt ≤ 120) := hL8.I.1 6273
      have fig7_6273 : ((0 : Int) ≤ (ig7 6273).toInt) ∧ ((ig7 6273).toInt ≤ 120) := hGg7.I.1 6273
      have fig4_6273 : ((0 : Int) ≤ (ig4 6273).toInt) ∧ ((ig4 6273).toInt ≤ 120) := hGg4.I.1 6273
      have fi_6273 : ((0 : Int) ≤ (i 6273).toInt) ∧ ((i 6273).toInt ≤ 120) := hJ3.I.1 6273
      have efig4_6273 : (ig4 6273).toInt = (i 6273).toInt := kg4.ti 6273 rfl
      have efig7_6273 : (ig7 6273).toInt = (ig4 6273).toInt := kg7.ti 6273 rfl
      have efi8_6273 : (i8 6273).toInt = (ig7 6273).toInt := hL8.ti 6273 rfl
      have eRr8_2 : r8 2 = 10 := (hL8.fr 2 rfl).trans eRrg7_2
      refine ft_go mi_k44 3 28 [(1, .int l1_8), (0, .ref 98)] [.int (i8 6273), .int l1_8] i8 a8 q8 r8 (by rfl) ?_
      refine ft_if mi_k44 (decide ((i8 6273) ≤ l1_8)) 50 31 [(1, .int l1_8), (0, .ref 98)] [] (by rfl) (fun c => ?_) (fun c => ?_)
      ·
        have c9 : (i8 6273).toInt ≤ l1_8.toInt := kd_le c; clear c
        have hG10 := kG_call hGg7 hL8 (by decide +kernel)
        have hD11 : (i8 6274, i8 6275, a8 11, a8 12, i8 643) = (cTxt t nn (a 11) (a 12)) := cLL_end O8_0 (kj_sub0 (n := nn.toInt) (op116 c9 efi8_6273 efig4_6273 efig7_6273 hn1))
        have fi8_6275 : ((0 : Int) ≤ (i8 6275).toInt) ∧ ((i8 6275).toInt ≤ 1) := hG10.I.1 6275
        refine ft_go mi_k44 2 54 [(1, .int l1_8), (0, .ref 98)] [.int (i8 6275)] i8 a8 q8 r8 (by rfl) ?_
        refine ft_if mi_k44 ((i8 6275) != 0) 68 57 [(1, .int l1_8), (0, .ref 98)] [] (by rfl) (fun c => ?_) (fun c => ?_)
        ·
          have c12 : (i8 6275).toInt ≠ (0 : Int32).toInt := kd_ne c; clear c
          have fi8_6274 : ((0 : Int) ≤ (i8 6274).toInt) ∧ ((i8 6274).toInt ≤ 120) := hG10.I.1 6274
          refine ft_go mi_k44 2 72 [(1, .int l1_8), (0, .ref 98)] [.int (i8 6274)] i8 a8 q8 r8 (by rfl) ?_
          exact ft_ret mi_k44 (by rfl) (hP (i8 6274) _ _ _ _ hG10 ⟨(op159 fi8_6274.1), (rd_bad hD11 (op160 c12 fi8_6275.1 kop0) rfl (op4 fi8_6274.1))⟩)
        ·
          have c13 : (i8 6275).toInt = (0 : Int32).toInt := kd_neF c; clear c
          have fi8_6274 : ((0 : Int) ≤ (i8 6274).toInt) ∧ ((i8 6274).toInt ≤ 120) := hG10.I.1 6274
          refine ft_go mi_k44 4 65 [(1, .int l1_8), (0, .ref 98)] [.int (i8 6273), .int (i8 6274)] i8 a8 q8 r8 (by rfl) ?_
          refine ft_if mi_k44 (decide ((i8 6273) ≤ (i8 6274))) 73 68 [(1, .int l1_8), (0, .ref 98)] [] (by rfl) (fun c => ?_) (fun c => ?_)
          ·
            have c14 : (i8 6273).toInt ≤ (i8 6274).toInt := kd_le c; clear c
            refine ft_go mi_k44 2 77 [(1, .int l1_8), (0, .ref 98)] [.ref (r8 2)] i8 a8 q8 r8 (by rfl) ?_
            refine ko_eq (x1 := (77, [(1, .int l1_8), (0, .ref 98)], [.ref 10], (0, 0), ks i8 a8 q8 r8)) (by rw [eRr8_2]) ?_
            have hJ15 := kG_i hG10 640 rfl (v := 1) ⟨(op62 kop1), (op63 kop1)⟩
            refine ft_go mi_k44 3 82 [(1, .int l1_8), (0, .ref 98)] [.int (-1)] (ku i8 640 1) a8 q8 r8 (by rfl) ?_
            exact ft_ret mi_k44 (by rfl) (hP (-1) _ _ _ _ hJ15 ⟨(op161 kopm1), (rd_ok hD11 (op7 c13 fi8_6275.1 kop0) (op116 c14 efi8_6273 efig4_6273 efig7_6273 hn1) rfl rfl rfl)⟩)
          ·
            have c16 : (i8 6274).toInt < (i8 6273).toInt := kd_leF c; clear c
            refine ft_go mi_k44 2 72 [(1, .int l1_8), (0, .ref 98)] [.int (i8 6274)] i8 a8 q8 r8 (by rfl) ?_
            exact ft_ret mi_k44 (by rfl) (hP (i8 6274) _ _ _ _ hG10 ⟨(op159 fi8_6274.1), (rd_bad hD11 (op162 c16 efi8_6273 efig4_6273 efig7_6273 hn1) rfl (op4 fi8_6274.1))⟩)
      ·
        have c17 : l1_8.toInt < (i8 6273).toInt := kd_leF c; clear c
        refine ft_go mi_k44 2 34 [(1, .int l1_8), (0, .ref 98)] [.int 59, .ref 98] i8 a8 q8 r8 (by rfl) ?_
        refine ko_callI mi_k44.1 (pc := 34) (ls := [(1, .int l1_8), (0, .ref 98)]) (st := [.int 59, .ref 98]) (h := ks i8 a8 q8 r8) (i := (.invokevirtual 39, 3, 46, 0, 9, 0, 200)) (mi_k44.2 _ _ (by rfl)) (ft_invS mi_pq46 (by rfl)) (cy := mi_c46) mi_pq46 rfl (ke46_98 hL8.I hL8.R 59 (op163 kop59) t nn ((((hL8.fa 99 rfl).trans (kg7.fa 99 rfl)).trans (kg4.fa 99 rfl)).trans hT) (((hL8.fi 6273 rfl).trans ((kg7.fi 6273 rfl).trans (kg4.fi 6273 rfl))).trans hN) hX) (by decide) ?_
        intro vg18 ig18 ag18 qg18 rg18 kg18 hg18
        have hGg18 := kG_call hL8 kg18 (by decide +kernel)
        have eRrg18_2 : rg18 2 = 10 := (kg18.fr 2 rfl).trans eRr8_2
        obtain ⟨hg18, og18⟩ := hg18
        have fig18_6274 : ((0 : Int) ≤ (ig18 6274).toInt) ∧ ((ig18 6274).toInt ≤ 120) := hGg18.I.1 6274
        have fi8_6274 : ((0 : Int) ≤ (i8 6274).toInt) ∧ ((i8 6274).toInt ≤ 120) := hL8.I.1 6274
        have fi8_6275 : ((0 : Int) ≤ (i8 6275).toInt) ∧ ((i8 6275).toInt ≤ 1) := hL8.I.1 6275
        have z19 : ((vg18.toInt = 1) ∧ ((ig18 6274).toInt = ((i8 6274).toInt + 1)) ∧ ((i8 6274).toInt < (i8 6273).toInt) ∧ ((i8 6275).toInt = 0)) ∨ ((vg18.toInt = 0) ∧ ((ig18 6274).toInt = (i8 6274).toInt)) := hg18
        refine ft_if mi_k44 (vg18 == 0) 50 40 [(1, .int l1_8), (0, .ref 98)] [] (by rfl) (fun c => ?_) (fun c => ?_)
        ·
          have c20 : vg18.toInt = (0 : Int32).toInt := kd_eq c; clear c
          have hG21 := kG_call hGg7 hGg18 (by decide +kernel)
          have hD22 : (ig18 6274, ig18 6275, ag18 11, ag18 12, ig18 643) = (cTxt t nn (a 11) (a 12)) := cLL_out O8_0 (kj_sub1 (n := nn.toInt) (op118 c17 efi8_6273 efig4_6273 efig7_6273 hn1) (op4 p8_0)) (tTk og18 (kg18.fi 6275 rfl) (kT3 (kg18.fa 11 rfl) (kg18.fa 12 rfl) (kg18.fi 643 rfl))) (op98 c20 kop0)
          have fig18_6275 : ((0 : Int) ≤ (ig18 6275).toInt) ∧ ((ig18 6275).toInt ≤ 1) := hG21.I.1 6275
          have efig18_6275 : (ig18 6275).toInt = (i8 6275).toInt := kg18.ti 6275 rfl
          refine ft_go mi_k44 2 54 [(1, .int l1_8), (0, .ref 98)] [.int (ig18 6275)] ig18 ag18 qg18 rg18 (by rfl) ?_
          refine ft_if mi_k44 ((ig18 6275) != 0) 68 57 [(1, .int l1_8), (0, .ref 98)] [] (by rfl) (fun c => ?_) (fun c => ?_)
          ·
            have c23 : (ig18 6275).toInt ≠ (0 : Int32).toInt := kd_ne c; clear c
            refine ft_go mi_k44 2 72 [(1, .int l1_8), (0, .ref 98)] [.int (ig18 6274)] ig18 ag18 qg18 rg18 (by rfl) ?_
            exact ft_ret mi_k44 (by rfl) (hP (ig18 6274) _ _ _ _ hG21 ⟨(op159 fig18_6274.1), (rd_bad hD22 (op160 c23 fig18_6275.1 kop0) rfl (op4 fig18_6274.1))⟩)
          ·
            have c24 : (ig18 6275).toInt = (0 : Int32).toInt := kd_neF c; clear c
            have fig18_6273 : ((0 : Int) ≤ (ig18 6273).toInt) ∧ ((ig18 6273).toInt ≤ 120) := hG21.I.1 6273
            have efig18_6273 : (ig18 6273).toInt = (i8 6273).toInt := kg18.ti 6273 rfl
            refine ft_go mi_k44 4 65 [(1, .int l1_8), (0, .ref 98)] [.int (ig18 6273), .int (ig18 6274)] ig18 ag18 qg18 rg18 (by rfl) ?_
            refine ft_if mi_k44 (decide ((ig18 6273) ≤ (ig18 6274))) 73 68 [(1, .int l1_8), (0, .ref 98)] [] (by rfl) (fun c => ?_) (fun c => ?_)
            ·
              have c25 : (ig18 6273).toInt ≤ (ig18 6274).toInt := kd_le c; clear c
              refine ft_go mi_k44 2 77 [(1, .int l1_8), (0, .ref 98)] [.ref (rg18 2)] ig18 ag18 qg18 rg18 (by rfl) ?_
              refine ko_eq (x1 := (77, [(1, .int l1_8), (0, .ref 98)], [.ref 10], (0, 0), ks ig18 ag18 qg18 rg18)) (by rw [eRrg18_2]) ?_
              have hJ26 := kG_i hG21 640 rfl (v := 1) ⟨(op62 kop1), (op63 kop1)⟩
              refine ft_go mi_k44 3 82 [(1, .int l1_8), (0, .ref 98)] [.int (-1)] (ku ig18 640 1) ag18 qg18 rg18 (by rfl) ?_
              exact ft_ret mi_k44 (by rfl) (hP (-1) _ _ _ _ hJ26 ⟨(op161 kopm1), (rd_ok hD22 (op7 c24 fig18_6275.1 kop0) (op164 c25 efi8_6273 efig18_6273 efig4_6273 efig7_6273 hn1) rfl rfl rfl)⟩)
            ·
              have c27 : (ig18 6274).toInt < (ig18 6273).toInt := kd_leF c; clear c
              refine ft_go mi_k44 2 72 [(1, .int l1_8), (0, .ref 98)] [.int (ig18 6274)] ig18 ag18 qg18 rg18 (by rfl) ?_
              exact ft_ret mi_k44 (by rfl) (hP (ig18 6274) _ _ _ _ hG21 ⟨(op159 fig18_6274.1), (rd_bad hD22 (op165 c27 efi8_6273 efig18_6273 efig4_6273 efig7_6273 hn1) rfl (op4 fig18_6274.1))⟩)
        ·
          have c28 : vg18.toInt ≠ (0 : Int32).toInt := kd_eqF c; clear c
          refine ft_go mi_k44 1 41 [(1, .int l1_8), (0, .ref 98)] [.ref 98] ig18 ag18 qg18 rg18 (by rfl) ?_
          refine ko_callN mi_k44.1 (pc := 41) (ls := [(1, .int l1_8), (0, .ref 98)]) (st := [.ref 98]) (h := ks ig18 ag18 qg18 rg18) (i := (.invokevirtual 36, 3, 48, 0, 9, 0, 177)) (mi_k44.2 _ _ (by rfl)) (ft_invS mi_pq48 (by rfl)) (cy := mi_c48) mi_pq48 rfl (ke48_98_L10 hGg18.I hGg18.R t nn (((((kg18.fa 99 rfl).trans (hL8.fa 99 rfl)).trans (kg7.fa 99 rfl)).trans (kg4.fa 99 rfl)).trans hT) (((kg18.fi 6273 rfl).trans ((hL8.fi 6273 rfl).trans ((kg7.fi 6273 rfl).trans (kg4.fi 6273 rfl)))).trans hN) eRrg18_2 hX) (by decide) ?_
          intro ig29 ag29 qg29 rg29 kg29 hg29
          have hGg29 := kG_call hGg18 kg29 (by decide +kernel)
          have eRrg29_2 : rg29 2 = 10 := (kg29.fr 2 rfl).trans eRrg18_2
          obtain ⟨hg29, og29⟩ := hg29
          have s30 : (l1_8 + 1).toInt = l1_8.toInt + (1 : Int32).toInt := kd_add (op18 p8_0 kop1) (op117 c17 fi8_6273.2 kop1)
          refine ft_go mi_k44 2 23 [(1, .int (l1_8 + 1)), (0, .ref 98)] [] ig29 ag29 qg29 rg29 (by rfl) ?_
          have fig29_6273 : ((0 : Int) ≤ (ig29 6273).toInt) ∧ ((ig29 6273).toInt ≤ 120) := hGg29.I.1 6273
          have fig18_6273 : ((0 : Int) ≤ (ig18 6273).toInt) ∧ ((ig18 6273).toInt ≤ 120) := hGg18.I.1 6273
          have efig18_6273 : (ig18 6273).toInt = (i8 6273).toInt := kg18.ti 6273 rfl
          have efig29_6273 : (ig29 6273).toInt = (ig18 6273).toInt := kg29.ti 6273 rfl
          exact ih8 _ _ _ _ _ hGg29 (op20 p8_0 s30 kop1) (cLL_again O8_0 (kj_sub2 (n := nn.toInt) (op118 c17 efi8_6273 efig4_6273 efig7_6273 hn1) (op4 p8_0) (op30 s30 kop1)) (tTk og18 (kg18.fi 6275 rfl) (kT3 (kg18.fa 11 rfl) (kg18.fa 12 rfl) (kg18.fi 643 rfl))) (op146 c28 z19 kop0) og29) (kj_meas (op166 efig18_6273 efig29_6273 s30 kop1) (op121 c17) hm8)
  exact lp8 _ _ _ _ _ _ (kG_self _ hGg7.I hGg7.R) (op36 kop0) (cLL_begin og7 (kS5 (show ig4 6274 = 0 from (by first | rfl | (simp only [(show ig4 6274 = (0 : Int32) from kg4.fi 6274 rfl), sMn, sMx]; done) | (simp only [(show ig4 6274 = (0 : Int32) from kg4.fi 6274 rfl), sMn, sMx]; rfl))) (show ig4 6275 = 0 from (by first | rfl | (simp only [(show ig4 6275 = (0 : Int32) from kg4.fi 6275 rfl), sMn, sMx]; done) | (simp only [(show ig4 6275 = (0 : Int32) from kg4.fi 6275 rfl), sMn, sMx]; rfl))) (show ag4 11 = a 11 from (by first | rfl | (simp only [kg4.fa 11 rfl, sMn, sMx]; done) | (simp only [kg4.fa 11 rfl, sMn, sMx]; rfl))) (show ag4 12 = a 12 from (by first | rfl | (simp only [kg4.fa 12 rfl, sMn, sMx]; done) | (simp only [kg4.fa 12 rfl, sMn, sMx]; rfl))) (show ig4 643 = 0 from (by first | rfl | (simp only [q6, sMn, sMx]; done) | (simp only [q6, sMn, sMx]; rfl)))) (kj_sub00 kop0)) (Nat.lt_succ_self _)
def yw86_0_L10 : kW := ([640, 643, 6273, 6274, 6275], [11, 12], [], [0, 2])
set_option maxRecDepth 100000 in
theorem ke86_0_L10 {i : Nat → Int32} {a : Nat → List Int32} {q : Nat → List Int64} {r : Nat → Nat} (hI : kI i a q) (hr : kr r) (t : List Int32) (nn : Int32) (hT : a 99 = t) (hN : i 6273 = nn) (hL : r 2 = 10) (hX : kBy t) : km 57 86 [.ref 0] (ks i a q r) (kVI yw86_0_L10 i a q r (fun v i1 a1 q1 r1 => ((i1 6273).toInt = 0) ∧ ((cOk nn (cTxt t nn (a 11) (a 12)) ∧ v = 1 ∧ r1 0 = 10 ∧ r1 2 = 100 ∧ i1 640 = 1 ∧ (a1 11, a1 12, i1 643) = (cTxt t nn (a 11) (a 12)).2.2) ∨ (¬ cOk nn (cTxt t nn (a 11) (a 12)) ∧ v = -100 - (cTxt t nn (a 11) (a 12)).1 ∧ r1 0 = 100 ∧ r1 2 = 10)))) := by
  have hG := kG_self yw86_0_L10 hI hr
  refine km_ofI (q := (mi_h86, mi_c86)) rfl (by decide) (Nat.le_of_ble_eq_true rfl) ?_
  intro P hP
  have hn1 : (i 6273).toInt = nn.toInt := congrArg Int32.toInt hN
  have eRr_2 : r 2 = 10 := hL
  have eRr_0 : r 0 = 100 := kr_0 hr hL (by decide)
  refine ft_go mi_k86 2 4 [(0, .ref 0)] [.ref 98] i a q r (by rfl) ?_
  refine ko_callI mi_k86.1 (pc := 4) (ls := [(0, .ref 0)]) (st := [.ref 98]) (h := ks i a q r) (i := (.invokevirtual 113, 3, 44, 0, 9, 0, 175)) (mi_k86.2 _ _ (by rfl)) (ft_invS mi_pq44 (by rfl)) (cy := mi_c44) mi_pq44 rfl (ke44_98_L10 hG.I hG.R t nn hT hN eRr_2 hX) (by decide) ?_
  intro vg2 ig2 ag2 qg2 rg2 kg2 hg2
  have hGg2 := kG_call hG kg2 (by decide +kernel)
  have eRrg2_0 : rg2 0 = 100 := (kg2.fr 0 rfl).trans eRr_0
  have eRrg2_2 : rg2 2 = 10 := (kg2.fr 2 rfl).trans eRr_2
  obtain ⟨hg2, og2⟩ := hg2
  have z3 : (vg2.toInt = (-1)) ∨ ((0 : Int) ≤ vg2.toInt) := hg2
  have hJ4 := kG_i hGg2 6273 rfl (v := 0) ⟨(op36 kop0), (op156 kop0)⟩
  refine ft_go mi_k86 6 17 [(1, .int vg2), (0, .ref 0)] [.int vg2] (ku ig2 6273 0) ag2 qg2 rg2 (by rfl) ?_
  refine ft_if mi_k86 (decide (vg2 < 0)) 25 20 [(1, .int vg2), (0, .ref 0)] [] (by rfl) (fun c => ?_) (fun c => ?_)
  ·
    have c5 : vg2.toInt < (0 : Int32).toInt := kd_lt c; clear c
    refine ft_go mi_k86 7 40 [(1, .int vg2), (0, .ref 0)] [.ref (rg2 0), .ref 98, .ref 1] (ku ig2 6273 0) ag2 qg2 rg2 (by rfl) ?_
    refine ko_eq (x1 := (40, [(1, .int vg2), (0, .ref 0)], [.ref 100, .ref 98, .ref 1], (0, 0), ks (ku ig2 6273 0) ag2 qg2 rg2)) (by rw [eRrg2_0]) ?_
    refine ko_callP mi_k86.1 (pc := 40) (ls := [(1, .int vg2), (0, .ref 0)]) (st := [.ref 100, .ref 98, .ref 1]) (h := ks (ku ig2 6273 0) ag2 qg2 rg2) (i := (.invokevirtual 121, 3, 43, 0, 9, 0, 205)) (mi_k86.2 _ _ (by rfl)) (ft_invS mi_pq43 (by rfl)) (cy := mi_c43) mi_pq43 rfl (kc43 (ku ig2 6273 0) ag2 qg2 rg2 100) (by decide) ?_
    rintro _ _ ⟨rfl, rfl⟩
    refine ko_eq (x1 := (43, [(1, .int vg2), (0, .ref 0)], [.ref 10, .ref 1], (0, 0), ks (ku ig2 6273 0) ag2 qg2 (ku rg2 2 100))) (by rw [eRrg2_2] <;> rfl) ?_
    have hJ6 := kG_r2 hJ4 2 rfl 0 rfl (v := 100) (v2 := 10) (by first | exact ⟨Or.inl ⟨rfl, rfl⟩, hJ4.R.2⟩ | exact ⟨Or.inr ⟨rfl, rfl⟩, hJ4.R.2⟩)
    refine ko_steps mi_in86 2 _ (47, [(1, .int vg2), (0, .ref 0)], [.int 1], (0, 0), ks (ku ig2 6273 0) ag2 qg2 (ku (ku rg2 2 100) 0 10)) (by rfl) ?_
    exact ft_ret mi_k86 (by rfl) (hP 1 _ _ _ _ hJ6 ⟨(op41 kop0), (lw_ok og2 (op167 c5 kop0) rfl rfl rfl rfl (kT3 rfl rfl rfl))⟩)
  ·
    have c7 : (0 : Int32).toInt ≤ vg2.toInt := kd_ltF c; clear c
    have b8 : ((-2147483648 : Int) ≤ vg2.toInt) ∧ (vg2.toInt ≤ 2147483647) := kd_bd vg2
    refine ft_go mi_k86 3 24 [(1, .int vg2), (0, .ref 0)] [.int ((-100) - vg2)] (ku ig2 6273 0) ag2 qg2 rg2 (by rfl) ?_
    exact ft_ret mi_k86 (by rfl) (hP ((-100) - vg2) _ _ _ _ hJ4 ⟨(op41 kop0), (lw_bad og2 (op153 c7 kop0) rfl eRrg2_0 eRrg2_2)⟩)
def zw17_100 : kW := ([6403], [101, 102], [], [])
set_option maxRecDepth 100000 in
theorem kf17_100 {i : Nat → Int32} {a : Nat → List Int32} {q : Nat → List Int64} {r : Nat → Nat} (hI : kI i a q) (hr : kr r) (x1 : Int32) (x2 : Int32) : km 1 17 [.ref 100, .int x1, .int x2] (ks i a q r) (kVI zw17_100 i a q r (fun v i1 a1 q1 r1 => ((((i 6403).toInt ≤ 120) ∧ ((i1 6403).toInt = ((i 6403).toInt + 1))) ∨ (((121 : Int) ≤ (i 6403).toInt) ∧ ((i1 6403).toInt = (i 6403).toInt))) ∧ ((a1 101, a1 102, i1 6403) = lAdd x1 x2 (a 101, a 102, i 6403) ∧ v = i1 6403 - 1))) := by
  have hG := kG_self zw17_100 hI hr
  refine km_ofI (q := (mi_h17, mi_c17)) rfl (by decide) (Nat.le_of_ble_eq_true rfl) ?_
  intro P hP
  have fi_6403 : ((0 : Int) ≤ (i 6403).toInt) ∧ ((i 6403).toInt ≤ 121) := hG.I.1 6403
  refine ft_go mi_k17 3 6 [(0, .ref 100), (1, .int x1), (2, .int x2)] [.int 121, .int (i 6403)] i a q r (by rfl) ?_
  refine ft_if mi_k17 (decide (121 ≤ (i 6403))) 39 9 [(0, .ref 100), (1, .int x1), (2, .int x2)] [] (by rfl) (fun c => ?_) (fun c => ?_)
  ·
    have c1 : (121 : Int32).toInt ≤ (i 6403).toInt := kd_le c; clear c
    have s2 : ((i 6403) - 1).toInt = (i 6403).toInt - (1 : Int32).toInt := kd_sub (op13 c1 kop121 kop1) (op14 fi_6403.2 kop1)
    refine ft_go mi_k17 4 45 [(0, .ref 100), (1, .int x1), (2, .int x2)] [.int ((i 6403) - 1)] i a q r (by rfl) ?_
    exact ft_ret mi_k17 (by rfl) (hP ((i 6403) - 1) _ _ _ _ hG ⟨(op15 c1 kop121), ⟨(show (a 101, a 102, i 6403) = (a 101, a 102, i 6403) from rfl).trans (if_neg (op16 c1 kop121)).symm, rfl⟩⟩)
  ·
    have c3 : (i 6403).toInt < (121 : Int32).toInt := kd_leF c; clear c
    refine ft_go mi_k17 5 18 [(0, .ref 100), (1, .int x1), (2, .int x2)] [.int x1, .int (i 6403), .ref 101] i a q r (by rfl) ?_
    refine ko_iast3 mi_k17.1 (n := 121) (c := 121) (ax := (0, 0, 0, 0, 0)) (mi_k17.2 _ _ (by rfl)) (by rfl) (ksG101 _ _ _ _) (ksA101 _ _ _ _) (hG.I.2.1 101) rfl (op4 fi_6403.1) (op17 c3 kop121) ?_
    intro a4 ea4 fa4
    have hJ4 := kG_a3 hG 101 rfl ea4 fa4 (kd_bd _)
    refine ft_go mi_k17 5 28 [(0, .ref 100), (1, .int x1), (2, .int x2)] [.int x2, .int (i 6403), .ref 102] i a4 q r (by rfl) ?_
    refine ko_iast3 mi_k17.1 (n := 121) (c := 121) (ax := (0, 0, 0, 0, 0)) (mi_k17.2 _ _ (by rfl)) (by rfl) (ksG102 _ _ _ _) (ksA102 _ _ _ _) (hJ4.I.2.1 102) rfl (op4 fi_6403.1) (op17 c3 kop121) ?_
    intro a5 ea5 fa5
    have hJ5 := kG_a3 hJ4 102 rfl ea5 fa5 (kd_bd _)
    have s6 : ((i 6403) + 1).toInt = (i 6403).toInt + (1 : Int32).toInt := kd_add (op18 fi_6403.1 kop1) (op19 fi_6403.2 kop1)
    have hJ7 := kG_i hJ5 6403 rfl (v := ((i 6403) + 1)) ⟨(op20 fi_6403.1 s6 kop1), (op21 c3 s6 kop121 kop1)⟩
    have s8 : (((i 6403) + 1) - 1).toInt = ((i 6403) + 1).toInt - (1 : Int32).toInt := kd_sub (op22 fi_6403.1 s6 kop1) (op23 fi_6403.2 s6 kop1)
    refine ft_go mi_k17 10 45 [(0, .ref 100), (1, .int x1), (2, .int x2)] [.int (((i 6403) + 1) - 1)] (ku i 6403 ((i 6403) + 1)) a5 q r (by rfl) ?_
    exact ft_ret mi_k17 (by rfl) (hP (((i 6403) + 1) - 1) _ _ _ _ hJ7 ⟨(op24 c3 s6 kop121 kop1), ⟨(show (a5 101, a5 102, ((i 6403) + 1)) = ((a 101).set (i 6403).toNatClampNeg x1, (a 102).set (i 6403).toNatClampNeg x2, i 6403 + 1) from by rw [fa5 101 (by decide), ea4, ea5, fa4 102 (by decide)]).trans (if_pos (op25 c3 kop121)).symm, rfl⟩⟩)
def yw55_98_L100 : kW := ([6274, 6403], [101, 102], [], [])
def yw55_98_L100_L4 : kW := ([6274], [], [], [])
set_option maxRecDepth 100000 in
theorem ke55_98_L100 {i : Nat → Int32} {a : Nat → List Int32} {q : Nat → List Int64} {r : Nat → Nat} (hI : kI i a q) (hr : kr r) (t : List Int32) (nn : Int32) (hT : a 99 = t) (hN : i 6273 = nn) (hL : r 2 = 100) (hX : kBy t) : km 3 55 [.ref 98] (ks i a q r) (kVN yw55_98_L100 i a q r (fun i1 a1 q1 r1 => (True) ∧ (i1 6274, i1 6275, a1 101, a1 102, i1 6403) = cNum t nn (i 6274, i 6275, a 101, a 102, i 6403))) := by
  have hG := kG_self yw55_98_L100 hI hr
  refine km_ofN (q := (mi_h55, mi_c55)) rfl (by decide) (Nat.le_of_ble_eq_true rfl) ?_
  intro P hP
  have hn1 : (i 6273).toInt = nn.toInt := congrArg Int32.toInt hN
  have eRr_2 : r 2 = 100 := hL
  refine ft_go mi_k55 4 4 [(2, .int 0), (1, .int 0), (0, .ref 98)] [] i a q r (by rfl) ?_
  have lp2 : ∀ (nz : Nat) (i2 : Nat → Int32) (a2 : Nat → List Int32) (q2 : Nat → List Int64) (r2 : Nat → Nat) (l2_2 : Int32) (l1_2 : Int32), kG yw55_98_L100_L4 i a q r i2 a2 q2 r2 → (0 : Int) ≤ l2_2.toInt → cDig t nn (4 - l2_2.toInt).toNat (l1_2, (i2 6274, i2 6275, a2 101, a2 102, i2 6403)) = cDig t nn 4 (0, (i 6274, i 6275, a 101, a 102, i 6403)) → ((4 - l2_2.toInt)).toNat < nz → ko 3 (mi_h55, mi_c55) P (4, [(2, .int l2_2), (1, .int l1_2), (0, .ref 98)], [], (0, 0), ks i2 a2 q2 r2) := by
    intro nz
    induction nz with
    | zero =>
      intro _ _ _ _ _ _ _ _ _ hm
      exact absurd hm (Nat.not_lt_zero _)
    | succ nz ih2 =>
      intro i2 a2 q2 r2 l2_2 l1_2 hL2 p2_0 O2_0 hm2
      have eRr2_2 : r2 2 = 100 := (hL2.fr 2 rfl).trans eRr_2
      refine ft_go mi_k55 2 6 [(2, .int l2_2), (1, .int l1_2), (0, .ref 98)] [.int 4, .int l2_2] i2 a2 q2 r2 (by rfl) ?_
      refine ft_if mi_k55 (decide (4 ≤ l2_2)) 48 9 [(2, .int l2_2), (1, .int l1_2), (0, .ref 98)] [] (by rfl) (fun c => ?_) (fun c => ?_)
      ·
        have c3 : (4 : Int32).toInt ≤ l2_2.toInt := kd_le c; clear c
        have hG4 := kG_call hG hL2 (by decide +kernel)
        have hD5 : (l1_2, (i2 6274, i2 6275, a2 101, a2 102, i2 6403)) = cDig t nn 4 (0, (i 6274, i 6275, a 101, a 102, i 6403)) := cDg_end O2_0 (kj_sub0 (n := 4) (op12 c3 kop4))
        refine ft_go mi_k55 2 52 [(2, .int l2_2), (1, .int l1_2), (0, .ref 98)] [.ref (r2 2)] i2 a2 q2 r2 (by rfl) ?_
        refine ko_eq (x1 := (52, [(2, .int l2_2), (1, .int l1_2), (0, .ref 98)], [.ref 100], (0, 0), ks i2 a2 q2 r2)) (by rw [eRr2_2]) ?_
        refine ft_go mi_k55 2 54 [(2, .int l2_2), (1, .int l1_2), (0, .ref 98)] [.int l1_2, .int 0, .ref 100] i2 a2 q2 r2 (by rfl) ?_
        refine ko_callI mi_k55.1 (pc := 54) (ls := [(2, .int l2_2), (1, .int l1_2), (0, .ref 98)]) (st := [.int l1_2, .int 0, .ref 100]) (h := ks i2 a2 q2 r2) (i := (.invokevirtual 60, 3, 17, 0, 9, 0, 187)) (mi_k55.2 _ _ (by rfl)) (ft_invS mi_pq17 (by rfl)) (cy := mi_c17) mi_pq17 rfl (kf17_100 hG4.I hG4.R 0 l1_2) (by decide) ?_
        intro vg6 ig6 ag6 qg6 rg6 kg6 hg6
        have hGg6 := kG_call hG4 kg6 (by decide +kernel)
        have eRrg6_2 : rg6 2 = 100 := (kg6.fr 2 rfl).trans eRr2_2
        obtain ⟨hg6, og6⟩ := hg6
        have fi2_6403 : ((0 : Int) ≤ (i2 6403).toInt) ∧ ((i2 6403).toInt ≤ 121) := hG4.I.1 6403
        have fi_6403 : ((0 : Int) ≤ (i 6403).toInt) ∧ ((i 6403).toInt ≤ 121) := hG.I.1 6403
        have efi2_6403 : (i2 6403).toInt = (i 6403).toInt := hL2.ti 6403 rfl
        have fig6_6403 : ((0 : Int) ≤ (ig6 6403).toInt) ∧ ((ig6 6403).toInt ≤ 121) := hGg6.I.1 6403
        have z7 : (((i2 6403).toInt ≤ 120) ∧ ((ig6 6403).toInt = ((i2 6403).toInt + 1))) ∨ (((121 : Int) ≤ (i2 6403).toInt) ∧ ((ig6 6403).toInt = (i2 6403).toInt)) := hg6
        refine ft_go mi_k55 1 58 [(2, .int l2_2), (1, .int l1_2), (0, .ref 98)] [] ig6 ag6 qg6 rg6 (by rfl) ?_
        exact ft_ret mi_k55 (by rfl) (hP  _ _ _ _ hGg6 ⟨trivial, (cNu_of hD5 (tAdd og6.1 (kg6.fi 6274 rfl) (kg6.fi 6275 rfl)))⟩)
      ·
        have c8 : l2_2.toInt < (4 : Int32).toInt := kd_leF c; clear c
        refine ft_go mi_k55 1 10 [(2, .int l2_2), (1, .int l1_2), (0, .ref 98)] [.ref 98] i2 a2 q2 r2 (by rfl) ?_
        refine ko_callPI mi_k55.1 (pc := 10) (ls := [(2, .int l2_2), (1, .int l1_2), (0, .ref 98)]) (st := [.ref 98]) (h := ks i2 a2 q2 r2) (i := (.invokevirtual 46, 3, 45, 0, 9, 0, 184)) (mi_k55.2 _ _ (by rfl)) (ft_invS mi_pq45 (by rfl)) (cy := mi_c45) mi_pq45 rfl (ke45_98 hL2.I hL2.R t nn ((hL2.fa 99 rfl).trans hT) ((hL2.fi 6273 rfl).trans hN) hX) (by decide) ?_
        intro vg9 hg9
        obtain ⟨hg9, og9⟩ := hg9
        have fi2_6275 : ((0 : Int) ≤ (i2 6275).toInt) ∧ ((i2 6275).toInt ≤ 1) := hL2.I.1 6275
        have fi_6275 : ((0 : Int) ≤ (i 6275).toInt) ∧ ((i 6275).toInt ≤ 1) := hG.I.1 6275
        have efi2_6275 : (i2 6275).toInt = (i 6275).toInt := hL2.ti 6275 rfl
        have fi2_6274 : ((0 : Int) ≤ (i2 6274).toInt) ∧ ((i2 6274).toInt ≤ 120) := hL2.I.1 6274
        have fi2_6273 : ((0 : Int) ≤ (i2 6273).toInt) ∧ ((i2 6273).toInt ≤ 120) := hL2.I.1 6273
        have fi_6273 : ((0 : Int) ≤ (i 6273).toInt) ∧ ((i 6273).toInt ≤ 120) := hG.I.1 6273
        have efi2_6273 : (i2 6273).toInt = (i 6273).toInt := hL2.ti 6273 rfl
        have z10 : (((-1) : Int) ≤ vg9.toInt) ∧ (vg9.toInt ≤ 255) ∧ ((vg9.toInt = (-1)) ∨ (((i2 6275).toInt = 0) ∧ ((i2 6274).toInt < (i2 6273).toInt))) := hg9
        have q11 : vg9 = cHr t nn (i2 6274) (i2 6275) := og9
        have hv12 : vg9.toInt = (cHr t nn (i2 6274) (i2 6275)).toInt := congrArg Int32.toInt og9
        refine ko_callPI mi_k55.1 (pc := 13) (ls := [(2, .int l2_2), (1, .int l1_2), (0, .ref 98)]) (st := [.int vg9]) (h := ks i2 a2 q2 r2) (i := (.invokestatic 92, 3, 56, 0, 9, 0, 185)) (mi_k55.2 _ _ (by rfl)) (ft_invS mi_pq56 (by rfl)) (cy := mi_c56) mi_pq56 rfl (kc56 hL2.I hL2.R vg9) (by decide) ?_
        intro vg13 hg13
        rcases hg13 with ⟨eg13, hg13⟩ | ⟨eg13, hg13⟩
        ·
          subst eg13
          have z14 : ((48 : Int) ≤ vg9.toInt) ∧ (vg9.toInt ≤ 57) := hg13
          have b15 : ((-2147483648 : Int) ≤ l1_2.toInt) ∧ (l1_2.toInt ≤ 2147483647) := kd_bd l1_2
          refine ft_go mi_k55 5 24 [(2, .int l2_2), (1, .int l1_2), (0, .ref 98)] [.ref 98, .int (l1_2 * 10)] i2 a2 q2 r2 (by rfl) ?_
          refine ko_callPI mi_k55.1 (pc := 24) (ls := [(2, .int l2_2), (1, .int l1_2), (0, .ref 98)]) (st := [.ref 98, .int (l1_2 * 10)]) (h := ks i2 a2 q2 r2) (i := (.invokevirtual 46, 3, 45, 0, 9, 0, 184)) (mi_k55.2 _ _ (by rfl)) (ft_invS mi_pq45 (by rfl)) (cy := mi_c45) mi_pq45 rfl (ke45_98 hL2.I hL2.R t nn ((hL2.fa 99 rfl).trans hT) ((hL2.fi 6273 rfl).trans hN) hX) (by decide) ?_
          intro vg16 hg16
          obtain ⟨hg16, og16⟩ := hg16
          have z17 : (((-1) : Int) ≤ vg16.toInt) ∧ (vg16.toInt ≤ 255) ∧ ((vg16.toInt = (-1)) ∨ (((i2 6275).toInt = 0) ∧ ((i2 6274).toInt < (i2 6273).toInt))) := hg16
          have q18 : vg16 = cHr t nn (i2 6274) (i2 6275) := og16
          have hv19 : vg16.toInt = (cHr t nn (i2 6274) (i2 6275)).toInt := congrArg Int32.toInt og16
          have b20 : ((-2147483648 : Int) ≤ (l1_2 * 10).toInt) ∧ ((l1_2 * 10).toInt ≤ 2147483647) := kd_bd (l1_2 * 10)
          have b21 : ((-2147483648 : Int) ≤ vg16.toInt) ∧ (vg16.toInt ≤ 2147483647) := kd_bd vg16
          have b22 : ((-2147483648 : Int) ≤ ((l1_2 * 10) + vg16).toInt) ∧ (((l1_2 * 10) + vg16).toInt ≤ 2147483647) := kd_bd ((l1_2 * 10) + vg16)
          have s23 : ((i2 6274) + 1).toInt = (i2 6274).toInt + (1 : Int32).toInt := kd_add (op18 fi2_6274.1 kop1) (op26 fi2_6274.2 kop1)
          have hJ24 := kG_i hL2 6274 rfl (v := ((i2 6274) + 1)) ⟨(op20 fi2_6274.1 s23 kop1), (op27 fi2_6273.2 s23 z10.2.2 z14.1 kop1)⟩
          have s25 : (l2_2 + 1).toInt = l2_2.toInt + (1 : Int32).toInt := kd_add (op18 p2_0 kop1) (op28 c8 kop4 kop1)
          refine ft_go mi_k55 12 4 [(2, .int (l2_2 + 1)), (1, .int (((l1_2 * 10) + vg16) - 48)), (0, .ref 98)] [] (ku i2 6274 ((i2 6274) + 1)) a2 q2 r2 (by rfl) ?_
          exact ih2 _ _ _ _ _ _ hJ24 (op20 p2_0 s25 kop1) (cDg_again O2_0 (kj_sub2 (n := 4) (op29 c8 kop4) (op4 p2_0) (op30 s25 kop1)) (op31 hv12 z14.1) (op32 hv12 z14.2) (congrArg (fun z : Int32 => ((l1_2 * 10) + z) - 48) og16) rfl) (kj_meas (op33 s25 kop1) (op34 c8 kop4) hm2)
        ·
          subst eg13
          have z26 : ¬ (((48 : Int) ≤ vg9.toInt) ∧ (vg9.toInt ≤ 57)) := hg13
          refine ft_go mi_k55 1 48 [(2, .int l2_2), (1, .int l1_2), (0, .ref 98)] [] i2 a2 q2 r2 (by rfl) ?_
          have hG27 := kG_call hG hL2 (by decide +kernel)
          have hD28 : (l1_2, (i2 6274, i2 6275, a2 101, a2 102, i2 6403)) = cDig t nn 4 (0, (i 6274, i 6275, a 101, a 102, i 6403)) := cDg_out O2_0 (op35 hv12 z26)
          refine ft_go mi_k55 2 52 [(2, .int l2_2), (1, .int l1_2), (0, .ref 98)] [.ref (r2 2)] i2 a2 q2 r2 (by rfl) ?_
          refine ko_eq (x1 := (52, [(2, .int l2_2), (1, .int l1_2), (0, .ref 98)], [.ref 100], (0, 0), ks i2 a2 q2 r2)) (by rw [eRr2_2]) ?_
          refine ft_go mi_k55 2 54 [(2, .int l2_2), (1, .int l1_2), (0, .ref 98)] [.int l1_2, .int 0, .ref 100] i2 a2 q2 r2 (by rfl) ?_
          refine ko_callI mi_k55.1 (pc := 54) (ls := [(2, .int l2_2), (1, .int l1_2), (0, .ref 98)]) (st := [.int l1_2, .int 0, .ref 100]) (h := ks i2 a2 q2 r2) (i := (.invokevirtual 60, 3, 17, 0, 9, 0, 187)) (mi_k55.2 _ _ (by rfl)) (ft_invS mi_pq17 (by rfl)) (cy := mi_c17) mi_pq17 rfl (kf17_100 hG27.I hG27.R 0 l1_2) (by decide) ?_
          intro vg29 ig29 ag29 qg29 rg29 kg29 hg29
          have hGg29 := kG_call hG27 kg29 (by decide +kernel)
          have eRrg29_2 : rg29 2 = 100 := (kg29.fr 2 rfl).trans eRr2_2
          obtain ⟨hg29, og29⟩ := hg29
          have fi2_6403 : ((0 : Int) ≤ (i2 6403).toInt) ∧ ((i2 6403).toInt ≤ 121) := hG27.I.1 6403
          have fi_6403 : ((0 : Int) ≤ (i 6403).toInt) ∧ ((i 6403).toInt ≤ 121) := hG.I.1 6403
          have efi2_6403 : (i2 6403).toInt = (i 6403).toInt := hL2.ti 6403 rfl
          have fig29_6403 : ((0 : Int) ≤ (ig29 6403).toInt) ∧ ((ig29 6403).toInt ≤ 121) := hGg29.I.1 6403
          have z30 : (((i2 6403).toInt ≤ 120) ∧ ((ig29 6403).toInt = ((i2 6403).toInt + 1))) ∨ (((121 : Int) ≤ (i2 6403).toInt) ∧ ((ig29 6403).toInt = (i2 6403).toInt)) := hg29
          refine ft_go mi_k55 1 58 [(2, .int l2_2), (1, .int l1_2), (0, .ref 98)] [] ig29 ag29 qg29 rg29 (by rfl) ?_
          exact ft_ret mi_k55 (by rfl) (hP  _ _ _ _ hGg29 ⟨trivial, (cNu_of hD28 (tAdd og29.1 (kg29.fi 6274 rfl) (kg29.fi 6275 rfl)))⟩)
  exact lp2 _ _ _ _ _ _ _ (kG_self _ hG.I hG.R) (op36 kop0) (by rw [kop0]; rfl) (Nat.lt_succ_self _)
def wP100 : kW := ([6274, 6275, 6403], [101, 102], [], [])
def kMP100_54 (n : Nat) : Prop := ∀ (i : Nat → Int32) (a : Nat → List Int32) (q : Nat → List Int64) (r : Nat → Nat), kI i a q → kr r → ∀ (x1 : Int32), (((0 : Int) ≤ x1.toInt) ∧ ((x1.toInt + (n : Int)) = 6)) → ∀ (t : List Int32) (nn : Int32), a 99 = t → i 6273 = nn → r 2 = 100 → kBy t → km (6 * n + 10) 54 [.ref 98, .int x1] (ks i a q r) (kVN wP100 i a q r (fun i1 a1 q1 r1 => (True) ∧ (i1 6274, i1 6275, a1 101, a1 102, i1 6403) = (cO t nn n) (i 6274, i 6275, a 101, a 102, i 6403)))
def yw53_98_L100_L14 : kW := ([6274, 6275, 6403], [101, 102], [], [])
def kMP100_53 (n : Nat) : Prop := ∀ (i : Nat → Int32) (a : Nat → List Int32) (q : Nat → List Int64) (r : Nat → Nat), kI i a q → kr r → ∀ (x1 : Int32), (((0 : Int) ≤ x1.toInt) ∧ ((x1.toInt + (n : Int)) = 6)) → ∀ (t : List Int32) (nn : Int32), a 99 = t → i 6273 = nn → r 2 = 100 → kBy t → km (6 * n + 11) 53 [.ref 98, .int x1] (ks i a q r) (kVN wP100 i a q r (fun i1 a1 q1 r1 => (True) ∧ (i1 6274, i1 6275, a1 101, a1 102, i1 6403) = (cP3 t nn (cO t nn n)) (i 6274, i 6275, a 101, a 102, i 6403)))
def yw52_98_L100_L14 : kW := ([6274, 6275, 6403], [101, 102], [], [])
def kMP100_52 (n : Nat) : Prop := ∀ (i : Nat → Int32) (a : Nat → List Int32) (q : Nat → List Int64) (r : Nat → Nat), kI i a q → kr r → ∀ (x1 : Int32), (((0 : Int) ≤ x1.toInt) ∧ ((x1.toInt + (n : Int)) = 6)) → ∀ (t : List Int32) (nn : Int32), a 99 = t → i 6273 = nn → r 2 = 100 → kBy t → km (6 * n + 12) 52 [.ref 98, .int x1] (ks i a q r) (kVN wP100 i a q r (fun i1 a1 q1 r1 => (True) ∧ (i1 6274, i1 6275, a1 101, a1 102, i1 6403) = (cP4 t nn (cO t nn n)) (i 6274, i 6275, a 101, a 102, i 6403)))
def kMP100_51 (n : Nat) : Prop := ∀ (i : Nat → Int32) (a : Nat → List Int32) (q : Nat → List Int64) (r : Nat → Nat), kI i a q → kr r → ∀ (x1 : Int32), (((0 : Int) ≤ x1.toInt) ∧ ((x1.toInt + (n : Int)) = 6)) → ∀ (t : List Int32) (nn : Int32), a 99 = t → i 6273 = nn → r 2 = 100 → kBy t → km (6 * n + 13) 51 [.ref 98, .int x1] (ks i a q r) (kVN wP100 i a q r (fun i1 a1 q1 r1 => (True) ∧ (i1 6274, i1 6275, a1 101, a1 102, i1 6403) = (cP5 t nn (cO t nn n)) (i 6274, i 6275, a 101, a 102, i 6403)))
def yw50_98_L100_L7 : kW := ([6274, 6275, 6403], [101, 102], [], [])
def kMP100_50 (n : Nat) : Prop := ∀ (i : Nat → Int32) (a : Nat → List Int32) (q : Nat → List Int64) (r : Nat → Nat), kI i a q → kr r → ∀ (x1 : Int32), (((0 : Int) ≤ x1.toInt) ∧ ((x1.toInt + (n : Int)) = 6)) → ∀ (t : List Int32) (nn : Int32), a 99 = t → i 6273 = nn → r 2 = 100 → kBy t → km (6 * n + 14) 50 [.ref 98, .int x1] (ks i a q r) (kVN wP100 i a q r (fun i1 a1 q1 r1 => (True) ∧ (i1 6274, i1 6275, a1 101, a1 102, i1 6403) = (cP6 t nn (cO t nn n)) (i 6274, i 6275, a 101, a 102, i 6403)))
def yw49_98_L100_L7 : kW := ([6274, 6275, 6403], [101, 102], [], [])
def kMP100_49 (n : Nat) : Prop := ∀ (i : Nat → Int32) (a : Nat → List Int32) (q : Nat → List Int64) (r : Nat → Nat), kI i a q → kr r → ∀ (x1 : Int32), (((0 : Int) ≤ x1.toInt) ∧ ((x1.toInt + (n : Int)) = 6)) → ∀ (t : List Int32) (nn : Int32), a 99 = t → i 6273 = nn → r 2 = 100 → kBy t → km (6 * n + 15) 49 [.ref 98, .int x1] (ks i a q r) (kVN wP100 i a q r (fun i1 a1 q1 r1 => (True) ∧ (i1 6274, i1 6275, a1 101, a1 102, i1 6403) = (cE t nn n) (i 6274, i 6275, a 101, a 102, i 6403)))
set_option maxRecDepth 100000 in
theorem kMsP100_54 (n : Nat)  (ih : ∀ m, n = m + 1 → kMP100_49 m ∧ kMP100_54 m) : kMP100_54 n := by
  intro i a q r hI hr x1 hp0 t nn hT hN hL hX
  have hG := kG_self wP100 hI hr
  refine km_ofN (q := (mi_h54, mi_c54)) rfl (by decide) (Nat.le_of_ble_eq_true rfl) ?_
  intro P hP
  have hn0 : (0 : Int) ≤ (n : Int) := Int.natCast_nonneg n
  have hn1 : (i 6273).toInt = nn.toInt := congrArg Int32.toInt hN
  have eRr_2 : r 2 = 100 := hL
  refine ft_go mi_k54 1 1 [(0, .ref 98), (1, .int x1)] [.ref 98] i a q r (by rfl) ?_
  refine ko_callPI mi_k54.1 (pc := 1) (ls := [(0, .ref 98), (1, .int x1)]) (st := [.ref 98]) (h := ks i a q r) (i := (.invokevirtual 46, 3, 45, 0, 9, 0, 184)) (mi_k54.2 _ _ (by rfl)) (ft_invS mi_pq45 (by rfl)) (cy := mi_c45) mi_pq45 rfl (ke45_98 hG.I hG.R t nn hT hN hX) (kj_d3 (n := n) (c := 1) (o1 := 10) (by decide)) ?_
  intro vg2 hg2
  obtain ⟨hg2, og2⟩ := hg2
  have fi_6275 : ((0 : Int) ≤ (i 6275).toInt) ∧ ((i 6275).toInt ≤ 1) := hG.I.1 6275
  have fi_6274 : ((0 : Int) ≤ (i 6274).toInt) ∧ ((i 6274).toInt ≤ 120) := hG.I.1 6274
  have fi_6273 : ((0 : Int) ≤ (i 6273).toInt) ∧ ((i 6273).toInt ≤ 120) := hG.I.1 6273
  have z3 : (((-1) : Int) ≤ vg2.toInt) ∧ (vg2.toInt ≤ 255) ∧ ((vg2.toInt = (-1)) ∨ (((i 6275).toInt = 0) ∧ ((i 6274).toInt < (i 6273).toInt))) := hg2
  have q4 : vg2 = cHr t nn (i 6274) (i 6275) := og2
  have hv5 : vg2.toInt = (cHr t nn (i 6274) (i 6275)).toInt := congrArg Int32.toInt og2
  refine ft_go mi_k54 2 6 [(2, .int vg2), (0, .ref 98), (1, .int x1)] [.int vg2] i a q r (by rfl) ?_
  refine ko_callPI mi_k54.1 (pc := 6) (ls := [(2, .int vg2), (0, .ref 98), (1, .int x1)]) (st := [.int vg2]) (h := ks i a q r) (i := (.invokestatic 92, 3, 56, 0, 9, 0, 185)) (mi_k54.2 _ _ (by rfl)) (ft_invS mi_pq56 (by rfl)) (cy := mi_c56) mi_pq56 rfl (kc56 hG.I hG.R vg2) (kj_d3 (n := n) (c := 1) (o1 := 10) (by decide)) ?_
  intro vg6 hg6
  rcases hg6 with ⟨eg6, hg6⟩ | ⟨eg6, hg6⟩
  ·
    subst eg6
    have z7 : ((48 : Int) ≤ vg2.toInt) ∧ (vg2.toInt ≤ 57) := hg6
    refine ft_go mi_k54 2 13 [(2, .int vg2), (0, .ref 98), (1, .int x1)] [.ref 98] i a q r (by rfl) ?_
    refine ko_callN mi_k54.1 (pc := 13) (ls := [(2, .int vg2), (0, .ref 98), (1, .int x1)]) (st := [.ref 98]) (h := ks i a q r) (i := (.invokevirtual 95, 3, 55, 0, 9, 0, 186)) (mi_k54.2 _ _ (by rfl)) (ft_invS mi_pq55 (by rfl)) (cy := mi_c55) mi_pq55 rfl (ke55_98_L100 hG.I hG.R t nn hT hN eRr_2 hX) (kj_d3 (n := n) (c := 3) (o1 := 10) (by decide)) ?_
    intro ig8 ag8 qg8 rg8 kg8 hg8
    have hGg8 := kG_call hG kg8 (by decide +kernel)
    have eRrg8_2 : rg8 2 = 100 := (kg8.fr 2 rfl).trans eRr_2
    obtain ⟨hg8, og8⟩ := hg8
    exact ft_ret mi_k54 (by rfl) (hP  _ _ _ _ hGg8 ⟨trivial, (cPt_lv (cO_any t nn n) (fun nx => cPt_num (nx := nx) (op31 hv5 z7.1) (op32 hv5 z7.2) og8))⟩)
  ·
    subst eg6
    have z9 : ¬ (((48 : Int) ≤ vg2.toInt) ∧ (vg2.toInt ≤ 57)) := hg6
    refine ft_go mi_k54 3 20 [(2, .int vg2), (0, .ref 98), (1, .int x1)] [.ref (mi_RO + 10), .ref 98] i a q r (by rfl) ?_
    refine ko_callI mi_k54.1 (pc := 20) (ls := [(2, .int vg2), (0, .ref 98), (1, .int x1)]) (st := [.ref (mi_RO + 10), .ref 98]) (h := ks i a q r) (i := (.invokevirtual 78, 3, 47, 0, 9, 0, 189)) (mi_k54.2 _ _ (by rfl)) (ft_invS mi_pq47 (by rfl)) (cy := mi_c47) mi_pq47 rfl (ke47_98_1000010 hG.I hG.R t nn hT hN hX) (kj_d3 (n := n) (c := 9) (o1 := 10) (by decide)) ?_
    intro vg10 ig10 ag10 qg10 rg10 kg10 hg10
    have hGg10 := kG_call hG kg10 (by decide +kernel)
    have eRrg10_2 : rg10 2 = 100 := (kg10.fr 2 rfl).trans eRr_2
    obtain ⟨hg10, og10⟩ := hg10
    have fig10_6274 : ((0 : Int) ≤ (ig10 6274).toInt) ∧ ((ig10 6274).toInt ≤ 120) := hGg10.I.1 6274
    have z11 : ((vg10.toInt = (-1)) ∧ ((ig10 6274).toInt = (i 6274).toInt)) ∨ (((ig10 6274).toInt = ((i 6274).toInt + 1)) ∧ ((i 6274).toInt < (i 6273).toInt) ∧ ((i 6275).toInt = 0) ∧ ((vg10.toInt = 119) ∨ (vg10.toInt = 112) ∨ (vg10.toInt = 104) ∨ (vg10.toInt = 110) ∨ (vg10.toInt = 111) ∨ (vg10.toInt = 100))) := hg10
    have ho12 : vg10.toInt = (-1) ∨ vg10.toInt = (cHr t nn (i 6274) (i 6275)).toInt := tOf_v og10
    refine ft_go mi_k54 3 26 [(3, .int vg10), (2, .int vg2), (0, .ref 98), (1, .int x1)] [.int (-1), .int vg10] ig10 ag10 qg10 rg10 (by rfl) ?_
    refine ft_if mi_k54 (vg10 == (-1)) 46 29 [(3, .int vg10), (2, .int vg2), (0, .ref 98), (1, .int x1)] [] (by rfl) (fun c => ?_) (fun c => ?_)
    ·
      have c13 : vg10.toInt = ((-1) : Int32).toInt := kd_eq c; clear c
      refine ft_go mi_k54 2 49 [(3, .int vg10), (2, .int vg2), (0, .ref 98), (1, .int x1)] [.int 6, .int x1] ig10 ag10 qg10 rg10 (by rfl) ?_
      refine ft_if mi_k54 (decide (6 ≤ x1)) 62 52 [(3, .int vg10), (2, .int vg2), (0, .ref 98), (1, .int x1)] [] (by rfl) (fun c => ?_) (fun c => ?_)
      ·
        have c14 : (6 : Int32).toInt ≤ x1.toInt := kd_le c; clear c
        have hJ15 := kG_i hGg10 6275 rfl (v := 1) ⟨(op62 kop1), (op63 kop1)⟩
        refine ft_go mi_k54 3 67 [(3, .int vg10), (2, .int vg2), (0, .ref 98), (1, .int x1)] [] (ku ig10 6275 1) ag10 qg10 rg10 (by rfl) ?_
        have tb16 : (ig10 6274, (1 : Int32), ag10 101, ag10 102, ig10 6403) = cBad (ig10 6274, ig10 6275, ag10 101, ag10 102, ig10 6403) := (tBad rfl rfl (kT3 rfl rfl rfl))
        have to17 : (vg10, (ig10 6274, ig10 6275, ag10 101, ag10 102, ig10 6403)) = cOf t nn oNam (i 6274, i 6275, a 101, a 102, i 6403) := (tOf og10 (kg10.fi 6275 rfl) (kT3 (kg10.fa 101 rfl) (kg10.fa 102 rfl) (kg10.fi 6403 rfl)))
        have te18 : (ig10 6274, ig10 6275, ag10 101, ag10 102, ig10 6403) = (i 6274, i 6275, a 101, a 102, i 6403) := cOf_no to17 (op64 c13 kopm1) oNam_ne
        have tp19 : (ig10 6274, (1 : Int32), ag10 101, ag10 102, ig10 6403) = cPart t nn none (i 6274, i 6275, a 101, a 102, i 6403) := cPt_non (op35 hv5 z9) to17 (op64 c13 kopm1) (tBad2 te18 tb16)
        exact ft_ret mi_k54 (by rfl) (hP  _ _ _ _ hJ15 ⟨trivial, (tp19.trans (congrFun (cO_z (kj_n0 (op65 c14 hp0.2 kop6))).symm _))⟩)
      ·
        have c20 : x1.toInt < (6 : Int32).toInt := kd_leF c; clear c
        obtain ⟨m, hm, hmI⟩ := kj_pred (op66 c20 hp0.2 kop6)
        have hh21 : (cHr t nn (ig10 6274) (ig10 6275)).toInt = (cHr t nn (i 6274) (i 6275)).toInt := congrArg Int32.toInt (kHr_c (t := t) (n := nn) (kj_v (op67 c13 z11 kopm1)) (kg10.fi 6275 rfl))
        refine ft_go mi_k54 2 55 [(3, .int vg10), (2, .int vg2), (0, .ref 98), (1, .int x1)] [.ref (mi_RO + 11), .ref 98] ig10 ag10 qg10 rg10 (by rfl) ?_
        refine ko_callI mi_k54.1 (pc := 55) (ls := [(3, .int vg10), (2, .int vg2), (0, .ref 98), (1, .int x1)]) (st := [.ref (mi_RO + 11), .ref 98]) (h := ks ig10 ag10 qg10 rg10) (i := (.invokevirtual 78, 3, 47, 0, 9, 0, 189)) (mi_k54.2 _ _ (by rfl)) (ft_invS mi_pq47 (by rfl)) (cy := mi_c47) mi_pq47 rfl (ke47_98_1000011 hGg10.I hGg10.R t nn ((kg10.fa 99 rfl).trans hT) ((kg10.fi 6273 rfl).trans hN) hX) (kj_d3 (n := n) (c := 9) (o1 := 10) (by decide)) ?_
        intro vg22 ig22 ag22 qg22 rg22 kg22 hg22
        have hGg22 := kG_call hGg10 kg22 (by decide +kernel)
        have eRrg22_2 : rg22 2 = 100 := (kg22.fr 2 rfl).trans eRrg10_2
        obtain ⟨hg22, og22⟩ := hg22
        have fig22_6274 : ((0 : Int) ≤ (ig22 6274).toInt) ∧ ((ig22 6274).toInt ≤ 120) := hGg22.I.1 6274
        have fig10_6273 : ((0 : Int) ≤ (ig10 6273).toInt) ∧ ((ig10 6273).toInt ≤ 120) := hGg10.I.1 6273
        have efig10_6273 : (ig10 6273).toInt = (i 6273).toInt := kg10.ti 6273 rfl
        have fig10_6275 : ((0 : Int) ≤ (ig10 6275).toInt) ∧ ((ig10 6275).toInt ≤ 1) := hGg10.I.1 6275
        have efig10_6275 : (ig10 6275).toInt = (i 6275).toInt := kg10.ti 6275 rfl
        have z23 : ((vg22.toInt = (-1)) ∧ ((ig22 6274).toInt = (ig10 6274).toInt)) ∨ (((ig22 6274).toInt = ((ig10 6274).toInt + 1)) ∧ ((ig10 6274).toInt < (ig10 6273).toInt) ∧ ((ig10 6275).toInt = 0) ∧ ((vg22.toInt = 40) ∨ (vg22.toInt = 33) ∨ (vg22.toInt = 45))) := hg22
        have ho24 : vg22.toInt = (-1) ∨ vg22.toInt = (cHr t nn (ig10 6274) (ig10 6275)).toInt := tOf_v og22
        refine ft_go mi_k54 1 59 [(3, .int vg10), (2, .int vg2), (0, .ref 98), (1, .int x1)] [.int (-1), .int vg22] ig22 ag22 qg22 rg22 (by rfl) ?_
        refine ft_if mi_k54 (vg22 != (-1)) 68 62 [(3, .int vg10), (2, .int vg2), (0, .ref 98), (1, .int x1)] [] (by rfl) (fun c => ?_) (fun c => ?_)
        ·
          have c25 : vg22.toInt ≠ ((-1) : Int32).toInt := kd_ne c; clear c
          refine ft_go mi_k54 2 71 [(3, .int vg10), (2, .int vg2), (0, .ref 98), (1, .int x1)] [.int 40, .int vg2] ig22 ag22 qg22 rg22 (by rfl) ?_
          refine ft_if mi_k54 (vg2 != 40) 96 74 [(3, .int vg10), (2, .int vg2), (0, .ref 98), (1, .int x1)] [] (by rfl) (fun c => ?_) (fun c => ?_)
          ·
            have c26 : vg2.toInt ≠ (40 : Int32).toInt := kd_ne c; clear c
            have s27 : (x1 + 1).toInt = x1.toInt + (1 : Int32).toInt := kd_add (op18 hp0.1 kop1) (op79 hn0 hp0.2 kop1)
            refine ft_go mi_k54 4 100 [(3, .int vg10), (2, .int vg2), (0, .ref 98), (1, .int x1)] [.int (x1 + 1), .ref 98] ig22 ag22 qg22 rg22 (by rfl) ?_
            refine ko_callN mi_k54.1 (pc := 100) (ls := [(3, .int vg10), (2, .int vg2), (0, .ref 98), (1, .int x1)]) (st := [.int (x1 + 1), .ref 98]) (h := ks ig22 ag22 qg22 rg22) (i := (.invokevirtual 87, 3, 54, 0, 9, 0, 183)) (mi_k54.2 _ _ (by rfl)) (ft_invS mi_pq54 (by rfl)) (cy := mi_c54) mi_pq54 rfl ((ih m hm).2 _ _ _ _ hGg22.I hGg22.R (x1 + 1) (op80 hmI hp0.1 hp0.2 s27 kop1) t nn (((kg22.fa 99 rfl).trans (kg10.fa 99 rfl)).trans hT) (((kg22.fi 6273 rfl).trans (kg10.fi 6273 rfl)).trans hN) eRrg22_2 hX) (kj_d2 (n := n) (m := m) (o := 10) (o1 := 10) hm (by decide)) ?_
            intro ig28 ag28 qg28 rg28 kg28 hg28
            have hGg28 := kG_call hGg22 kg28 (by decide +kernel)
            have eRrg28_2 : rg28 2 = 100 := (kg28.fr 2 rfl).trans eRrg22_2
            obtain ⟨hg28, og28⟩ := hg28
            refine ft_go mi_k54 2 107 [(3, .int vg10), (2, .int vg2), (0, .ref 98), (1, .int x1)] [.ref (rg28 2)] ig28 ag28 qg28 rg28 (by rfl) ?_
            refine ko_eq (x1 := (107, [(3, .int vg10), (2, .int vg2), (0, .ref 98), (1, .int x1)], [.ref 100], (0, 0), ks ig28 ag28 qg28 rg28)) (by rw [eRrg28_2]) ?_
            refine ft_go mi_k54 2 110 [(3, .int vg10), (2, .int vg2), (0, .ref 98), (1, .int x1)] [.int 45, .int vg2, .ref 100] ig28 ag28 qg28 rg28 (by rfl) ?_
            refine ft_if mi_k54 (vg2 != 45) 118 113 [(3, .int vg10), (2, .int vg2), (0, .ref 98), (1, .int x1)] [.ref 100] (by rfl) (fun c => ?_) (fun c => ?_)
            ·
              have c29 : vg2.toInt ≠ (45 : Int32).toInt := kd_ne c; clear c
              refine ft_go mi_k54 2 120 [(3, .int vg10), (2, .int vg2), (0, .ref 98), (1, .int x1)] [.int 0, .int vg2, .ref 100] ig28 ag28 qg28 rg28 (by rfl) ?_
              refine ko_callI mi_k54.1 (pc := 120) (ls := [(3, .int vg10), (2, .int vg2), (0, .ref 98), (1, .int x1)]) (st := [.int 0, .int vg2, .ref 100]) (h := ks ig28 ag28 qg28 rg28) (i := (.invokevirtual 60, 3, 17, 0, 9, 0, 187)) (mi_k54.2 _ _ (by rfl)) (ft_invS mi_pq17 (by rfl)) (cy := mi_c17) mi_pq17 rfl (kf17_100 hGg28.I hGg28.R vg2 0) (kj_d3 (n := n) (c := 1) (o1 := 10) (by decide)) ?_
              intro vg30 ig30 ag30 qg30 rg30 kg30 hg30
              have hGg30 := kG_call hGg28 kg30 (by decide +kernel)
              have eRrg30_2 : rg30 2 = 100 := (kg30.fr 2 rfl).trans eRrg28_2
              obtain ⟨hg30, og30⟩ := hg30
              have fig28_6403 : ((0 : Int) ≤ (ig28 6403).toInt) ∧ ((ig28 6403).toInt ≤ 121) := hGg28.I.1 6403
              have fig30_6403 : ((0 : Int) ≤ (ig30 6403).toInt) ∧ ((ig30 6403).toInt ≤ 121) := hGg30.I.1 6403
              have z31 : (((ig28 6403).toInt ≤ 120) ∧ ((ig30 6403).toInt = ((ig28 6403).toInt + 1))) ∨ (((121 : Int) ≤ (ig28 6403).toInt) ∧ ((ig30 6403).toInt = (ig28 6403).toInt)) := hg30
              refine ft_go mi_k54 1 124 [(3, .int vg10), (2, .int vg2), (0, .ref 98), (1, .int x1)] [] ig30 ag30 qg30 rg30 (by rfl) ?_
              have to32 : (vg10, (ig10 6274, ig10 6275, ag10 101, ag10 102, ig10 6403)) = cOf t nn oNam (i 6274, i 6275, a 101, a 102, i 6403) := (tOf og10 (kg10.fi 6275 rfl) (kT3 (kg10.fa 101 rfl) (kg10.fa 102 rfl) (kg10.fi 6403 rfl)))
              have te33 : (ig10 6274, ig10 6275, ag10 101, ag10 102, ig10 6403) = (i 6274, i 6275, a 101, a 102, i 6403) := cOf_no to32 (op64 c13 kopm1) oNam_ne
              have to34 : (vg22, (ig22 6274, ig22 6275, ag22 101, ag22 102, ig22 6403)) = cOf t nn oOpn (ig10 6274, ig10 6275, ag10 101, ag10 102, ig10 6403) := (tOf og22 (kg22.fi 6275 rfl) (kT3 (kg22.fa 101 rfl) (kg22.fa 102 rfl) (kg22.fi 6403 rfl)))
              have tx35 : vg2 = (if vg22.toInt = 45 then (126 : Int32) else vg22) := ((kj_v (op82 c25 hh21 ho24 hv5 z3.1 kopm1)).trans (if_neg (op83 c29 hh21 ho24 hv5 z23 kop45)).symm)
              have to36 : (ig28 6274, ig28 6275, ag28 101, ag28 102, ig28 6403) = cO t nn m (ig22 6274, ig22 6275, ag22 101, ag22 102, ig22 6403) := og28
              have to37 : (ig30 6274, ig30 6275, ag30 101, ag30 102, ig30 6403) = cAdd vg2 0 (ig28 6274, ig28 6275, ag28 101, ag28 102, ig28 6403) := (tAdd og30.1 (kg30.fi 6274 rfl) (kg30.fi 6275 rfl))
              have tp38 : (ig30 6274, ig30 6275, ag30 101, ag30 102, ig30 6403) = cPart t nn (some (cO t nn m)) (i 6274, i 6275, a 101, a 102, i 6403) := cPt_un (sub := cO t nn m) (op81 c25 hh21 ho24 hv5 z23 z9 kopm1) to32 (op64 c13 kopm1) te33 to34 (op84 c25 z23 kopm1) (op85 c26 c29 hh21 ho24 hv5 z23 kop40 kop45) to36 tx35 to37
              exact ft_ret mi_k54 (by rfl) (hP  _ _ _ _ hGg30 ⟨trivial, (tp38.trans (congrFun (cO_s hm).symm _))⟩)
            ·
              have c39 : vg2.toInt = (45 : Int32).toInt := kd_neF c; clear c
              refine ft_go mi_k54 3 120 [(3, .int vg10), (2, .int vg2), (0, .ref 98), (1, .int x1)] [.int 0, .int 126, .ref 100] ig28 ag28 qg28 rg28 (by rfl) ?_
              refine ko_callI mi_k54.1 (pc := 120) (ls := [(3, .int vg10), (2, .int vg2), (0, .ref 98), (1, .int x1)]) (st := [.int 0, .int 126, .ref 100]) (h := ks ig28 ag28 qg28 rg28) (i := (.invokevirtual 60, 3, 17, 0, 9, 0, 187)) (mi_k54.2 _ _ (by rfl)) (ft_invS mi_pq17 (by rfl)) (cy := mi_c17) mi_pq17 rfl (kf17_100 hGg28.I hGg28.R 126 0) (kj_d3 (n := n) (c := 1) (o1 := 10) (by decide)) ?_
              intro vg40 ig40 ag40 qg40 rg40 kg40 hg40
              have hGg40 := kG_call hGg28 kg40 (by decide +kernel)
              have eRrg40_2 : rg40 2 = 100 := (kg40.fr 2 rfl).trans eRrg28_2
              obtain ⟨hg40, og40⟩ := hg40
              have fig28_6403 : ((0 : Int) ≤ (ig28 6403).toInt) ∧ ((ig28 6403).toInt ≤ 121) := hGg28.I.1 6403
              have fig40_6403 : ((0 : Int) ≤ (ig40 6403).toInt) ∧ ((ig40 6403).toInt ≤ 121) := hGg40.I.1 6403
              have z41 : (((ig28 6403).toInt ≤ 120) ∧ ((ig40 6403).toInt = ((ig28 6403).toInt + 1))) ∨ (((121 : Int) ≤ (ig28 6403).toInt) ∧ ((ig40 6403).toInt = (ig28 6403).toInt)) := hg40
              refine ft_go mi_k54 1 124 [(3, .int vg10), (2, .int vg2), (0, .ref 98), (1, .int x1)] [] ig40 ag40 qg40 rg40 (by rfl) ?_
              have to42 : (vg10, (ig10 6274, ig10 6275, ag10 101, ag10 102, ig10 6403)) = cOf t nn oNam (i 6274, i 6275, a 101, a 102, i 6403) := (tOf og10 (kg10.fi 6275 rfl) (kT3 (kg10.fa 101 rfl) (kg10.fa 102 rfl) (kg10.fi 6403 rfl)))
              have te43 : (ig10 6274, ig10 6275, ag10 101, ag10 102, ig10 6403) = (i 6274, i 6275, a 101, a 102, i 6403) := cOf_no to42 (op64 c13 kopm1) oNam_ne
              have to44 : (vg22, (ig22 6274, ig22 6275, ag22 101, ag22 102, ig22 6403)) = cOf t nn oOpn (ig10 6274, ig10 6275, ag10 101, ag10 102, ig10 6403) := (tOf og22 (kg22.fi 6275 rfl) (kT3 (kg22.fa 101 rfl) (kg22.fa 102 rfl) (kg22.fi 6403 rfl)))
              have tx45 : (126 : Int32) = (if vg22.toInt = 45 then (126 : Int32) else vg22) := (if_pos (op87 c25 c39 hh21 ho24 hv5 z23 kopm1 kop45)).symm
              have to46 : (ig28 6274, ig28 6275, ag28 101, ag28 102, ig28 6403) = cO t nn m (ig22 6274, ig22 6275, ag22 101, ag22 102, ig22 6403) := og28
              have to47 : (ig40 6274, ig40 6275, ag40 101, ag40 102, ig40 6403) = cAdd (126 : Int32) 0 (ig28 6274, ig28 6275, ag28 101, ag28 102, ig28 6403) := (tAdd og40.1 (kg40.fi 6274 rfl) (kg40.fi 6275 rfl))
              have tp48 : (ig40 6274, ig40 6275, ag40 101, ag40 102, ig40 6403) = cPart t nn (some (cO t nn m)) (i 6274, i 6275, a 101, a 102, i 6403) := cPt_un (sub := cO t nn m) (op86 c39 hv5 kop45) to42 (op64 c13 kopm1) te43 to44 (op84 c25 z23 kopm1) (op88 c25 c39 hh21 ho24 hv5 kopm1 kop45) to46 tx45 to47
              exact ft_ret mi_k54 (by rfl) (hP  _ _ _ _ hGg40 ⟨trivial, (tp48.trans (congrFun (cO_s hm).symm _))⟩)
          ·
            have c49 : vg2.toInt = (40 : Int32).toInt := kd_neF c; clear c
            have s50 : (x1 + 1).toInt = x1.toInt + (1 : Int32).toInt := kd_add (op18 hp0.1 kop1) (op79 hn0 hp0.2 kop1)
            refine ft_go mi_k54 4 78 [(3, .int vg10), (2, .int vg2), (0, .ref 98), (1, .int x1)] [.int (x1 + 1), .ref 98] ig22 ag22 qg22 rg22 (by rfl) ?_
            refine ko_callN mi_k54.1 (pc := 78) (ls := [(3, .int vg10), (2, .int vg2), (0, .ref 98), (1, .int x1)]) (st := [.int (x1 + 1), .ref 98]) (h := ks ig22 ag22 qg22 rg22) (i := (.invokevirtual 56, 3, 49, 0, 9, 0, 178)) (mi_k54.2 _ _ (by rfl)) (ft_invS mi_pq49 (by rfl)) (cy := mi_c49) mi_pq49 rfl ((ih m hm).1 _ _ _ _ hGg22.I hGg22.R (x1 + 1) (op80 hmI hp0.1 hp0.2 s50 kop1) t nn (((kg22.fa 99 rfl).trans (kg10.fa 99 rfl)).trans hT) (((kg22.fi 6273 rfl).trans (kg10.fi 6273 rfl)).trans hN) eRrg22_2 hX) (kj_d2 (n := n) (m := m) (o := 15) (o1 := 10) hm (by decide)) ?_
            intro ig51 ag51 qg51 rg51 kg51 hg51
            have hGg51 := kG_call hGg22 kg51 (by decide +kernel)
            have eRrg51_2 : rg51 2 = 100 := (kg51.fr 2 rfl).trans eRrg22_2
            obtain ⟨hg51, og51⟩ := hg51
            refine ft_go mi_k54 2 84 [(3, .int vg10), (2, .int vg2), (0, .ref 98), (1, .int x1)] [.int 41, .ref 98] ig51 ag51 qg51 rg51 (by rfl) ?_
            refine ko_callI mi_k54.1 (pc := 84) (ls := [(3, .int vg10), (2, .int vg2), (0, .ref 98), (1, .int x1)]) (st := [.int 41, .ref 98]) (h := ks ig51 ag51 qg51 rg51) (i := (.invokevirtual 39, 3, 46, 0, 9, 0, 200)) (mi_k54.2 _ _ (by rfl)) (ft_invS mi_pq46 (by rfl)) (cy := mi_c46) mi_pq46 rfl (ke46_98 hGg51.I hGg51.R 41 (op94 kop41) t nn ((((kg51.fa 99 rfl).trans (kg22.fa 99 rfl)).trans (kg10.fa 99 rfl)).trans hT) (((kg51.fi 6273 rfl).trans ((kg22.fi 6273 rfl).trans (kg10.fi 6273 rfl))).trans hN) hX) (kj_d3 (n := n) (c := 3) (o1 := 10) (by decide)) ?_
            intro vg52 ig52 ag52 qg52 rg52 kg52 hg52
            have hGg52 := kG_call hGg51 kg52 (by decide +kernel)
            have eRrg52_2 : rg52 2 = 100 := (kg52.fr 2 rfl).trans eRrg51_2
            obtain ⟨hg52, og52⟩ := hg52
            have fig52_6274 : ((0 : Int) ≤ (ig52 6274).toInt) ∧ ((ig52 6274).toInt ≤ 120) := hGg52.I.1 6274
            have fig51_6274 : ((0 : Int) ≤ (ig51 6274).toInt) ∧ ((ig51 6274).toInt ≤ 120) := hGg51.I.1 6274
            have fig51_6273 : ((0 : Int) ≤ (ig51 6273).toInt) ∧ ((ig51 6273).toInt ≤ 120) := hGg51.I.1 6273
            have fig22_6273 : ((0 : Int) ≤ (ig22 6273).toInt) ∧ ((ig22 6273).toInt ≤ 120) := hGg22.I.1 6273
            have efig22_6273 : (ig22 6273).toInt = (ig10 6273).toInt := kg22.ti 6273 rfl
            have efig51_6273 : (ig51 6273).toInt = (ig22 6273).toInt := kg51.ti 6273 rfl
            have fig51_6275 : ((0 : Int) ≤ (ig51 6275).toInt) ∧ ((ig51 6275).toInt ≤ 1) := hGg51.I.1 6275
            have z53 : ((vg52.toInt = 1) ∧ ((ig52 6274).toInt = ((ig51 6274).toInt + 1)) ∧ ((ig51 6274).toInt < (ig51 6273).toInt) ∧ ((ig51 6275).toInt = 0)) ∨ ((vg52.toInt = 0) ∧ ((ig52 6274).toInt = (ig51 6274).toInt)) := hg52
            refine ft_if mi_k54 (vg52 != 0) 95 90 [(3, .int vg10), (2, .int vg2), (0, .ref 98), (1, .int x1)] [] (by rfl) (fun c => ?_) (fun c => ?_)
            ·
              have c54 : vg52.toInt ≠ (0 : Int32).toInt := kd_ne c; clear c
              have to55 : (vg10, (ig10 6274, ig10 6275, ag10 101, ag10 102, ig10 6403)) = cOf t nn oNam (i 6274, i 6275, a 101, a 102, i 6403) := (tOf og10 (kg10.fi 6275 rfl) (kT3 (kg10.fa 101 rfl) (kg10.fa 102 rfl) (kg10.fi 6403 rfl)))
              have te56 : (ig10 6274, ig10 6275, ag10 101, ag10 102, ig10 6403) = (i 6274, i 6275, a 101, a 102, i 6403) := cOf_no to55 (op64 c13 kopm1) oNam_ne
              have to57 : (vg22, (ig22 6274, ig22 6275, ag22 101, ag22 102, ig22 6403)) = cOf t nn oOpn (ig10 6274, ig10 6275, ag10 101, ag10 102, ig10 6403) := (tOf og22 (kg22.fi 6275 rfl) (kT3 (kg22.fa 101 rfl) (kg22.fa 102 rfl) (kg22.fi 6403 rfl)))
              have tt58 : (vg52, (ig52 6274, ig52 6275, ag52 101, ag52 102, ig52 6403)) = cTk t nn 41 (ig51 6274, ig51 6275, ag51 101, ag51 102, ig51 6403) := (tTk og52 (kg52.fi 6275 rfl) (kT3 (kg52.fa 101 rfl) (kg52.fa 102 rfl) (kg52.fi 6403 rfl)))
              have tn59 : (ig52 6274, ig52 6275, ag52 101, ag52 102, ig52 6403) = cEnd (cTk t nn 41 (ig51 6274, ig51 6275, ag51 101, ag51 102, ig51 6403)) := cEn_y tt58 (op96 c54 z53 kop0)
              have to60 : (ig51 6274, ig51 6275, ag51 101, ag51 102, ig51 6403) = cEit t nn (cO t nn m) (ig22 6274, ig22 6275, ag22 101, ag22 102, ig22 6403) := og51
              have tp61 : (ig52 6274, ig52 6275, ag52 101, ag52 102, ig52 6403) = cPart t nn (some (cO t nn m)) (i 6274, i 6275, a 101, a 102, i 6403) := cPt_par (sub := cO t nn m) (op95 c49 hv5 kop40) to55 (op64 c13 kopm1) te56 to57 (op97 c25 c49 hh21 ho24 hv5 z23 kopm1 kop40) to60 tn59
              exact ft_ret mi_k54 (by rfl) (hP  _ _ _ _ hGg52 ⟨trivial, (tp61.trans (congrFun (cO_s hm).symm _))⟩)
            ·
              have c62 : vg52.toInt = (0 : Int32).toInt := kd_neF c; clear c
              have hJ63 := kG_i hGg52 6275 rfl (v := 1) ⟨(op62 kop1), (op63 kop1)⟩
              refine ft_go mi_k54 3 95 [(3, .int vg10), (2, .int vg2), (0, .ref 98), (1, .int x1)] [] (ku ig52 6275 1) ag52 qg52 rg52 (by rfl) ?_
              have to64 : (vg10, (ig10 6274, ig10 6275, ag10 101, ag10 102, ig10 6403)) = cOf t nn oNam (i 6274, i 6275, a 101, a 102, i 6403) := (tOf og10 (kg10.fi 6275 rfl) (kT3 (kg10.fa 101 rfl) (kg10.fa 102 rfl) (kg10.fi 6403 rfl)))
              have te65 : (ig10 6274, ig10 6275, ag10 101, ag10 102, ig10 6403) = (i 6274, i 6275, a 101, a 102, i 6403) := cOf_no to64 (op64 c13 kopm1) oNam_ne
              have to66 : (vg22, (ig22 6274, ig22 6275, ag22 101, ag22 102, ig22 6403)) = cOf t nn oOpn (ig10 6274, ig10 6275, ag10 101, ag10 102, ig10 6403) := (tOf og22 (kg22.fi 6275 rfl) (kT3 (kg22.fa 101 rfl) (kg22.fa 102 rfl) (kg22.fi 6403 rfl)))
              have tt67 : (vg52, (ig52 6274, ig52 6275, ag52 101, ag52 102, ig52 6403)) = cTk t nn 41 (ig51 6274, ig51 6275, ag51 101, ag51 102, ig51 6403) := (tTk og52 (kg52.fi 6275 rfl) (kT3 (kg52.fa 101 rfl) (kg52.fa 102 rfl) (kg52.fi 6403 rfl)))
              have tb68 : (ig52 6274, (1 : Int32), ag52 101, ag52 102, ig52 6403) = cBad (ig52 6274, ig52 6275, ag52 101, ag52 102, ig52 6403) := (tBad rfl rfl (kT3 rfl rfl rfl))
              have tn69 : (ig52 6274, (1 : Int32), ag52 101, ag52 102, ig52 6403) = cEnd (cTk t nn 41 (ig51 6274, ig51 6275, ag51 101, ag51 102, ig51 6403)) := cEn_n tt67 (op98 c62 kop0) tb68
              have to70 : (ig51 6274, ig51 6275, ag51 101, ag51 102, ig51 6403) = cEit t nn (cO t nn m) (ig22 6274, ig22 6275, ag22 101, ag22 102, ig22 6403) := og51
              have tp71 : (ig52 6274, (1 : Int32), ag52 101, ag52 102, ig52 6403) = cPart t nn (some (cO t nn m)) (i 6274, i 6275, a 101, a 102, i 6403) := cPt_par (sub := cO t nn m) (op95 c49 hv5 kop40) to64 (op64 c13 kopm1) te65 to66 (op97 c25 c49 hh21 ho24 hv5 z23 kopm1 kop40) to70 tn69
              exact ft_ret mi_k54 (by rfl) (hP  _ _ _ _ hJ63 ⟨trivial, (tp71.trans (congrFun (cO_s hm).symm _))⟩)
        ·
          have c72 : vg22.toInt = ((-1) : Int32).toInt := kd_neF c; clear c
          have hJ73 := kG_i hGg22 6275 rfl (v := 1) ⟨(op62 kop1), (op63 kop1)⟩
          refine ft_go mi_k54 3 67 [(3, .int vg10), (2, .int vg2), (0, .ref 98), (1, .int x1)] [] (ku ig22 6275 1) ag22 qg22 rg22 (by rfl) ?_
          have to74 : (vg10, (ig10 6274, ig10 6275, ag10 101, ag10 102, ig10 6403)) = cOf t nn oNam (i 6274, i 6275, a 101, a 102, i 6403) := (tOf og10 (kg10.fi 6275 rfl) (kT3 (kg10.fa 101 rfl) (kg10.fa 102 rfl) (kg10.fi 6403 rfl)))
          have te75 : (ig10 6274, ig10 6275, ag10 101, ag10 102, ig10 6403) = (i 6274, i 6275, a 101, a 102, i 6403) := cOf_no to74 (op64 c13 kopm1) oNam_ne
          have to76 : (vg22, (ig22 6274, ig22 6275, ag22 101, ag22 102, ig22 6403)) = cOf t nn oOpn (ig10 6274, ig10 6275, ag10 101, ag10 102, ig10 6403) := (tOf og22 (kg22.fi 6275 rfl) (kT3 (kg22.fa 101 rfl) (kg22.fa 102 rfl) (kg22.fi 6403 rfl)))
          have te77 : (ig22 6274, ig22 6275, ag22 101, ag22 102, ig22 6403) = (ig10 6274, ig10 6275, ag10 101, ag10 102, ig10 6403) := cOf_no to76 (op64 c72 kopm1) oOpn_ne
          have tb78 : (ig22 6274, (1 : Int32), ag22 101, ag22 102, ig22 6403) = cBad (ig22 6274, ig22 6275, ag22 101, ag22 102, ig22 6403) := (tBad rfl rfl (kT3 rfl rfl rfl))
          have tb79 : (ig22 6274, (1 : Int32), ag22 101, ag22 102, ig22 6403) = cBad (i 6274, i 6275, a 101, a 102, i 6403) := tBad2 (te77.trans te75) tb78
          have tp80 : (ig22 6274, (1 : Int32), ag22 101, ag22 102, ig22 6403) = cPart t nn (some (cO t nn m)) (i 6274, i 6275, a 101, a 102, i 6403) := cPt_bad (sub := cO t nn m) (op35 hv5 z9) to74 (op64 c13 kopm1) te75 to76 (op64 c72 kopm1) tb79
          exact ft_ret mi_k54 (by rfl) (hP  _ _ _ _ hJ73 ⟨trivial, (tp80.trans (congrFun (cO_s hm).symm _))⟩)
    ·
      have c81 : vg10.toInt ≠ ((-1) : Int32).toInt := kd_eqF c; clear c
      refine ft_go mi_k54 2 33 [(3, .int vg10), (2, .int vg2), (0, .ref 98), (1, .int x1)] [.ref (rg10 2)] ig10 ag10 qg10 rg10 (by rfl) ?_
      refine ko_eq (x1 := (33, [(3, .int vg10), (2, .int vg2), (0, .ref 98), (1, .int x1)], [.ref 100], (0, 0), ks ig10 ag10 qg10 rg10)) (by rw [eRrg10_2]) ?_
      have s82 : ((vg10.toUInt32 % 65536).toInt32).toInt = vg10.toInt := kd_i2c (op99 c81 z11 kopm1) (Int.le_trans (op100 z11) (by decide))
      refine ft_go mi_k54 4 38 [(3, .int vg10), (2, .int vg2), (0, .ref 98), (1, .int x1)] [.int ((vg10.toUInt32 % 65536).toInt32), .ref (mi_RO + 10), .int 1, .ref 100] ig10 ag10 qg10 rg10 (by rfl) ?_
      refine ko_callPI mi_k54.1 (pc := 38) (ls := [(3, .int vg10), (2, .int vg2), (0, .ref 98), (1, .int x1)]) (st := [.int ((vg10.toUInt32 % 65536).toInt32), .ref (mi_RO + 10), .int 1, .ref 100]) (h := ks ig10 ag10 qg10 rg10) (i := (.invokevirtual 50, 3, 228, 0, 9, 0, 190)) (mi_k54.2 _ _ (by rfl)) (ft_invS mi_pq228 (by rfl)) (cy := mi_c228) mi_pq228 rfl (ke228_1000010 hGg10.I hGg10.R ((vg10.toUInt32 % 65536).toInt32) (op101 c81 s82 z11 kopm1)) (kj_d3 (n := n) (c := 7) (o1 := 10) (by decide)) ?_
      intro vg83 hg83
      have z84 : (((-1) : Int) ≤ vg83.toInt) ∧ (vg83.toInt ≤ 5) ∧ (((((vg10.toUInt32 % 65536).toInt32).toInt = 119) → (vg83.toInt = 0))) ∧ (((((vg10.toUInt32 % 65536).toInt32).toInt = 112) → (vg83.toInt = 1))) ∧ (((((vg10.toUInt32 % 65536).toInt32).toInt = 104) → (vg83.toInt = 2))) ∧ (((((vg10.toUInt32 % 65536).toInt32).toInt = 110) → (vg83.toInt = 3))) ∧ (((((vg10.toUInt32 % 65536).toInt32).toInt = 111) → (vg83.toInt = 4))) ∧ (((((vg10.toUInt32 % 65536).toInt32).toInt = 100) → (vg83.toInt = 5))) ∧ (((vg83.toInt = 0) → (((vg10.toUInt32 % 65536).toInt32).toInt = 119))) ∧ (((vg83.toInt = 1) → (((vg10.toUInt32 % 65536).toInt32).toInt = 112))) ∧ (((vg83.toInt = 2) → (((vg10.toUInt32 % 65536).toInt32).toInt = 104))) ∧ (((vg83.toInt = 3) → (((vg10.toUInt32 % 65536).toInt32).toInt = 110))) ∧ (((vg83.toInt = 4) → (((vg10.toUInt32 % 65536).toInt32).toInt = 111))) ∧ (((vg83.toInt = 5) → (((vg10.toUInt32 % 65536).toInt32).toInt = 100))) ∧ ((vg83.toInt = (-1)) ∨ (((vg10.toUInt32 % 65536).toInt32).toInt = 119) ∨ (((vg10.toUInt32 % 65536).toInt32).toInt = 112) ∨ (((vg10.toUInt32 % 65536).toInt32).toInt = 104) ∨ (((vg10.toUInt32 % 65536).toInt32).toInt = 110) ∨ (((vg10.toUInt32 % 65536).toInt32).toInt = 111) ∨ (((vg10.toUInt32 % 65536).toInt32).toInt = 100)) := hg83
      refine ko_callI mi_k54.1 (pc := 41) (ls := [(3, .int vg10), (2, .int vg2), (0, .ref 98), (1, .int x1)]) (st := [.int vg83, .int 1, .ref 100]) (h := ks ig10 ag10 qg10 rg10) (i := (.invokevirtual 60, 3, 17, 0, 9, 0, 187)) (mi_k54.2 _ _ (by rfl)) (ft_invS mi_pq17 (by rfl)) (cy := mi_c17) mi_pq17 rfl (kf17_100 hGg10.I hGg10.R 1 vg83) (kj_d3 (n := n) (c := 1) (o1 := 10) (by decide)) ?_
      intro vg85 ig85 ag85 qg85 rg85 kg85 hg85
      have hGg85 := kG_call hGg10 kg85 (by decide +kernel)
      have eRrg85_2 : rg85 2 = 100 := (kg85.fr 2 rfl).trans eRrg10_2
      obtain ⟨hg85, og85⟩ := hg85
      have fig10_6403 : ((0 : Int) ≤ (ig10 6403).toInt) ∧ ((ig10 6403).toInt ≤ 121) := hGg10.I.1 6403
      have fi_6403 : ((0 : Int) ≤ (i 6403).toInt) ∧ ((i 6403).toInt ≤ 121) := hG.I.1 6403
      have efig10_6403 : (ig10 6403).toInt = (i 6403).toInt := kg10.ti 6403 rfl
      have fig85_6403 : ((0 : Int) ≤ (ig85 6403).toInt) ∧ ((ig85 6403).toInt ≤ 121) := hGg85.I.1 6403
      have z86 : (((ig10 6403).toInt ≤ 120) ∧ ((ig85 6403).toInt = ((ig10 6403).toInt + 1))) ∨ (((121 : Int) ≤ (ig10 6403).toInt) ∧ ((ig85 6403).toInt = (ig10 6403).toInt)) := hg85
      refine ft_go mi_k54 1 45 [(3, .int vg10), (2, .int vg2), (0, .ref 98), (1, .int x1)] [] ig85 ag85 qg85 rg85 (by rfl) ?_
      exact ft_ret mi_k54 (by rfl) (hP  _ _ _ _ hGg85 ⟨trivial, (cPt_lv (cO_any t nn n) (fun nx => cPt_nam (nx := nx) (op102 c81 ho12 hv5 z11 z3.1 kopm1) (tOf og10 (kg10.fi 6275 rfl) (kT3 (kg10.fa 101 rfl) (kg10.fa 102 rfl) (kg10.fi 6403 rfl))) (op104 c81 z11 kopm1) (nIdx_of (op103 c81 s82 z11 z84.2.1 z84.2.2.1 z84.2.2.2.1 z84.2.2.2.2.1 z84.2.2.2.2.2.1 z84.2.2.2.2.2.2.1 z84.2.2.2.2.2.2.2.1 kopm1)) (tAdd og85.1 (kg85.fi 6274 rfl) (kg85.fi 6275 rfl))))⟩)
