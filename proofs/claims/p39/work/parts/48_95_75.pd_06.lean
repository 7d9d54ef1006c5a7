set_option maxRecDepth 100000 in
theorem ke48_98_L100 {i : Nat → Int32} {a : Nat → List Int32} {q : Nat → List Int64} {r : Nat → Nat} (hI : kI i a q) (hr : kr r) (t : List Int32) (nn : Int32) (hT : a 99 = t) (hN : i 6273 = nn) (hL : r 2 = 100) (hX : kBy t) : km 53 48 [.ref 98] (ks i a q r) (kVN yw48_98_L100 i a q r (fun i1 a1 q1 r1 => (True) ∧ (i1 6274, i1 6275, a1 101, a1 102, i1 6403) = cLin t nn (i 6274, i 6275, a 101, a 102, i 6403))) := by
  have hG := kG_self yw48_98_L100 hI hr
  refine km_ofN (q := (mi_h48, mi_c48)) rfl (by decide) (Nat.le_of_ble_eq_true rfl) ?_
  intro P hP
  have hn1 : (i 6273).toInt = nn.toInt := congrArg Int32.toInt hN
  have eRr_2 : r 2 = 100 := hL
  refine ft_go mi_k48 2 2 [(0, .ref 98)] [.int 0, .ref 98] i a q r (by rfl) ?_
  have nn0 := kop0
  refine ko_callN mi_k48.1 (pc := 2) (ls := [(0, .ref 98)]) (st := [.int 0, .ref 98]) (h := ks i a q r) (i := (.invokevirtual 56, 3, 49, 0, 9, 0, 178)) (mi_k48.2 _ _ (by rfl)) (ft_invS mi_pq49 (by rfl)) (cy := mi_c49) mi_pq49 rfl ((kMallP100 6).1 _ _ _ _ hG.I hG.R 0 (by have := kop0; omega) t nn hT hN eRr_2 hX) (by decide) ?_
  intro ig2 ag2 qg2 rg2 kg2 hg2
  have hGg2 := kG_call hG kg2 (by decide +kernel)
  have eRrg2_2 : rg2 2 = 100 := (kg2.fr 2 rfl).trans eRr_2
  obtain ⟨hg2, og2⟩ := hg2
  refine ft_go mi_k48 2 8 [(0, .ref 98)] [.int 63, .ref 98] ig2 ag2 qg2 rg2 (by rfl) ?_
  refine ko_callI mi_k48.1 (pc := 8) (ls := [(0, .ref 98)]) (st := [.int 63, .ref 98]) (h := ks ig2 ag2 qg2 rg2) (i := (.invokevirtual 39, 3, 46, 0, 9, 0, 200)) (mi_k48.2 _ _ (by rfl)) (ft_invS mi_pq46 (by rfl)) (cy := mi_c46) mi_pq46 rfl (ke46_98 hGg2.I hGg2.R 63 (op149 kop63) t nn ((kg2.fa 99 rfl).trans hT) ((kg2.fi 6273 rfl).trans hN) hX) (by decide) ?_
  intro vg3 ig3 ag3 qg3 rg3 kg3 hg3
  have hGg3 := kG_call hGg2 kg3 (by decide +kernel)
  have eRrg3_2 : rg3 2 = 100 := (kg3.fr 2 rfl).trans eRrg2_2
  obtain ⟨hg3, og3⟩ := hg3
  have fig3_6274 : ((0 : Int) ≤ (ig3 6274).toInt) ∧ ((ig3 6274).toInt ≤ 120) := hGg3.I.1 6274
  have fig2_6274 : ((0 : Int) ≤ (ig2 6274).toInt) ∧ ((ig2 6274).toInt ≤ 120) := hGg2.I.1 6274
  have fig2_6273 : ((0 : Int) ≤ (ig2 6273).toInt) ∧ ((ig2 6273).toInt ≤ 120) := hGg2.I.1 6273
  have fi_6273 : ((0 : Int) ≤ (i 6273).toInt) ∧ ((i 6273).toInt ≤ 120) := hG.I.1 6273
  have efig2_6273 : (ig2 6273).toInt = (i 6273).toInt := kg2.ti 6273 rfl
  have fig2_6275 : ((0 : Int) ≤ (ig2 6275).toInt) ∧ ((ig2 6275).toInt ≤ 1) := hGg2.I.1 6275
  have z4 : ((vg3.toInt = 1) ∧ ((ig3 6274).toInt = ((ig2 6274).toInt + 1)) ∧ ((ig2 6274).toInt < (ig2 6273).toInt) ∧ ((ig2 6275).toInt = 0)) ∨ ((vg3.toInt = 0) ∧ ((ig3 6274).toInt = (ig2 6274).toInt)) := hg3
  refine ft_if mi_k48 (vg3 == 0) 50 14 [(0, .ref 98)] [] (by rfl) (fun c => ?_) (fun c => ?_)
  ·
    have c5 : vg3.toInt = (0 : Int32).toInt := kd_eq c; clear c
    refine ft_go mi_k48 2 54 [(0, .ref 98)] [.ref (rg3 2)] ig3 ag3 qg3 rg3 (by rfl) ?_
    refine ko_eq (x1 := (54, [(0, .ref 98)], [.ref 100], (0, 0), ks ig3 ag3 qg3 rg3)) (by rw [eRrg3_2]) ?_
    refine ft_go mi_k48 2 56 [(0, .ref 98)] [.int 0, .int 2, .ref 100] ig3 ag3 qg3 rg3 (by rfl) ?_
    refine ko_callI mi_k48.1 (pc := 56) (ls := [(0, .ref 98)]) (st := [.int 0, .int 2, .ref 100]) (h := ks ig3 ag3 qg3 rg3) (i := (.invokevirtual 60, 3, 17, 0, 9, 0, 187)) (mi_k48.2 _ _ (by rfl)) (ft_invS mi_pq17 (by rfl)) (cy := mi_c17) mi_pq17 rfl (kf17_100 hGg3.I hGg3.R 2 0) (by decide) ?_
    intro vg6 ig6 ag6 qg6 rg6 kg6 hg6
    have hGg6 := kG_call hGg3 kg6 (by decide +kernel)
    have eRrg6_2 : rg6 2 = 100 := (kg6.fr 2 rfl).trans eRrg3_2
    obtain ⟨hg6, og6⟩ := hg6
    have fig3_6403 : ((0 : Int) ≤ (ig3 6403).toInt) ∧ ((ig3 6403).toInt ≤ 121) := hGg3.I.1 6403
    have fig2_6403 : ((0 : Int) ≤ (ig2 6403).toInt) ∧ ((ig2 6403).toInt ≤ 121) := hGg2.I.1 6403
    have efig3_6403 : (ig3 6403).toInt = (ig2 6403).toInt := kg3.ti 6403 rfl
    have fig6_6403 : ((0 : Int) ≤ (ig6 6403).toInt) ∧ ((ig6 6403).toInt ≤ 121) := hGg6.I.1 6403
    have z7 : (((ig3 6403).toInt ≤ 120) ∧ ((ig6 6403).toInt = ((ig3 6403).toInt + 1))) ∨ (((121 : Int) ≤ (ig3 6403).toInt) ∧ ((ig6 6403).toInt = (ig3 6403).toInt)) := hg6
    refine ft_go mi_k48 1 60 [(0, .ref 98)] [] ig6 ag6 qg6 rg6 (by rfl) ?_
    exact ft_ret mi_k48 (by rfl) (hP  _ _ _ _ hGg6 ⟨trivial, (cLi_one og2 (tTk og3 (kg3.fi 6275 rfl) (kT3 (kg3.fa 101 rfl) (kg3.fa 102 rfl) (kg3.fi 6403 rfl))) (op98 c5 kop0) (tAdd og6.1 (kg6.fi 6274 rfl) (kg6.fi 6275 rfl)))⟩)
  ·
    have c8 : vg3.toInt ≠ (0 : Int32).toInt := kd_eqF c; clear c
    refine ft_go mi_k48 2 18 [(0, .ref 98)] [.ref (rg3 2)] ig3 ag3 qg3 rg3 (by rfl) ?_
    refine ko_eq (x1 := (18, [(0, .ref 98)], [.ref 100], (0, 0), ks ig3 ag3 qg3 rg3)) (by rw [eRrg3_2]) ?_
    refine ft_go mi_k48 2 20 [(0, .ref 98)] [.int 0, .int 3, .ref 100] ig3 ag3 qg3 rg3 (by rfl) ?_
    refine ko_callI mi_k48.1 (pc := 20) (ls := [(0, .ref 98)]) (st := [.int 0, .int 3, .ref 100]) (h := ks ig3 ag3 qg3 rg3) (i := (.invokevirtual 60, 3, 17, 0, 9, 0, 187)) (mi_k48.2 _ _ (by rfl)) (ft_invS mi_pq17 (by rfl)) (cy := mi_c17) mi_pq17 rfl (kf17_100 hGg3.I hGg3.R 3 0) (by decide) ?_
    intro vg9 ig9 ag9 qg9 rg9 kg9 hg9
    have hGg9 := kG_call hGg3 kg9 (by decide +kernel)
    have eRrg9_2 : rg9 2 = 100 := (kg9.fr 2 rfl).trans eRrg3_2
    obtain ⟨hg9, og9⟩ := hg9
    have fig3_6403 : ((0 : Int) ≤ (ig3 6403).toInt) ∧ ((ig3 6403).toInt ≤ 121) := hGg3.I.1 6403
    have fig2_6403 : ((0 : Int) ≤ (ig2 6403).toInt) ∧ ((ig2 6403).toInt ≤ 121) := hGg2.I.1 6403
    have efig3_6403 : (ig3 6403).toInt = (ig2 6403).toInt := kg3.ti 6403 rfl
    have fig9_6403 : ((0 : Int) ≤ (ig9 6403).toInt) ∧ ((ig9 6403).toInt ≤ 121) := hGg9.I.1 6403
    have z10 : (((ig3 6403).toInt ≤ 120) ∧ ((ig9 6403).toInt = ((ig3 6403).toInt + 1))) ∨ (((121 : Int) ≤ (ig3 6403).toInt) ∧ ((ig9 6403).toInt = (ig3 6403).toInt)) := hg9
    refine ft_go mi_k48 3 26 [(1, .int vg9), (0, .ref 98)] [.int 0, .ref 98] ig9 ag9 qg9 rg9 (by rfl) ?_
    have nn0 := kop0
    refine ko_callN mi_k48.1 (pc := 26) (ls := [(1, .int vg9), (0, .ref 98)]) (st := [.int 0, .ref 98]) (h := ks ig9 ag9 qg9 rg9) (i := (.invokevirtual 56, 3, 49, 0, 9, 0, 178)) (mi_k48.2 _ _ (by rfl)) (ft_invS mi_pq49 (by rfl)) (cy := mi_c49) mi_pq49 rfl ((kMallP100 6).1 _ _ _ _ hGg9.I hGg9.R 0 (by have := kop0; omega) t nn ((((kg9.fa 99 rfl).trans (kg3.fa 99 rfl)).trans (kg2.fa 99 rfl)).trans hT) (((kg9.fi 6273 rfl).trans ((kg3.fi 6273 rfl).trans (kg2.fi 6273 rfl))).trans hN) eRrg9_2 hX) (by decide) ?_
    intro ig11 ag11 qg11 rg11 kg11 hg11
    have hGg11 := kG_call hGg9 kg11 (by decide +kernel)
    have eRrg11_2 : rg11 2 = 100 := (kg11.fr 2 rfl).trans eRrg9_2
    obtain ⟨hg11, og11⟩ := hg11
    refine ft_go mi_k48 2 33 [(1, .int vg9), (0, .ref 98)] [.ref (rg11 2)] ig11 ag11 qg11 rg11 (by rfl) ?_
    refine ko_eq (x1 := (33, [(1, .int vg9), (0, .ref 98)], [.ref 100], (0, 0), ks ig11 ag11 qg11 rg11)) (by rw [eRrg11_2]) ?_
    refine ft_go mi_k48 2 35 [(1, .int vg9), (0, .ref 98)] [.int 0, .int 2, .ref 100] ig11 ag11 qg11 rg11 (by rfl) ?_
    refine ko_callI mi_k48.1 (pc := 35) (ls := [(1, .int vg9), (0, .ref 98)]) (st := [.int 0, .int 2, .ref 100]) (h := ks ig11 ag11 qg11 rg11) (i := (.invokevirtual 60, 3, 17, 0, 9, 0, 187)) (mi_k48.2 _ _ (by rfl)) (ft_invS mi_pq17 (by rfl)) (cy := mi_c17) mi_pq17 rfl (kf17_100 hGg11.I hGg11.R 2 0) (by decide) ?_
    intro vg12 ig12 ag12 qg12 rg12 kg12 hg12
    have hGg12 := kG_call hGg11 kg12 (by decide +kernel)
    have eRrg12_2 : rg12 2 = 100 := (kg12.fr 2 rfl).trans eRrg11_2
    obtain ⟨hg12, og12⟩ := hg12
    have fig11_6403 : ((0 : Int) ≤ (ig11 6403).toInt) ∧ ((ig11 6403).toInt ≤ 121) := hGg11.I.1 6403
    have fig12_6403 : ((0 : Int) ≤ (ig12 6403).toInt) ∧ ((ig12 6403).toInt ≤ 121) := hGg12.I.1 6403
    have z13 : (((ig11 6403).toInt ≤ 120) ∧ ((ig12 6403).toInt = ((ig11 6403).toInt + 1))) ∨ (((121 : Int) ≤ (ig11 6403).toInt) ∧ ((ig12 6403).toInt = (ig11 6403).toInt)) := hg12
    refine ft_go mi_k48 3 43 [(1, .int vg9), (0, .ref 98)] [.ref (rg12 2)] ig12 ag12 qg12 rg12 (by rfl) ?_
    refine ko_eq (x1 := (43, [(1, .int vg9), (0, .ref 98)], [.ref 100], (0, 0), ks ig12 ag12 qg12 rg12)) (by rw [eRrg12_2]) ?_
    refine ft_go mi_k48 1 44 [(1, .int vg9), (0, .ref 98)] [.int vg9, .ref 100] ig12 ag12 qg12 rg12 (by rfl) ?_
    refine ko_callN mi_k48.1 (pc := 44) (ls := [(1, .int vg9), (0, .ref 98)]) (st := [.int vg9, .ref 100]) (h := ks ig12 ag12 qg12 rg12) (i := (.invokevirtual 64, 3, 18, 0, 9, 0, 204)) (mi_k48.2 _ _ (by rfl)) (ft_invS mi_pq18 (by rfl)) (cy := mi_c18) mi_pq18 rfl (kf18_100 hGg12.I hGg12.R vg9) (by decide) ?_
    intro ig14 ag14 qg14 rg14 kg14 hg14
    have hGg14 := kG_call hGg12 kg14 (by decide +kernel)
    have eRrg14_2 : rg14 2 = 100 := (kg14.fr 2 rfl).trans eRrg12_2
    obtain ⟨hg14, og14⟩ := hg14
    have fig14_6403 : ((0 : Int) ≤ (ig14 6403).toInt) ∧ ((ig14 6403).toInt ≤ 121) := hGg14.I.1 6403
    have efig14_6403 : (ig14 6403).toInt = (ig12 6403).toInt := kg14.ti 6403 rfl
    have z15 : (ig14 6403).toInt = (ig12 6403).toInt := hg14
    refine ft_go mi_k48 1 60 [(1, .int vg9), (0, .ref 98)] [] ig14 ag14 qg14 rg14 (by rfl) ?_
    exact ft_ret mi_k48 (by rfl) (hP  _ _ _ _ hGg14 ⟨trivial, (cLi_two og2 (tTk og3 (kg3.fi 6275 rfl) (kT3 (kg3.fa 101 rfl) (kg3.fa 102 rfl) (kg3.fi 6403 rfl))) (op96 c8 z4 kop0) (tAdd og9.1 (kg9.fi 6274 rfl) (kg9.fi 6275 rfl)) (cLi_2 og9.2 og11 (tAdd og12.1 (kg12.fi 6274 rfl) (kg12.fi 6275 rfl)) (tAim og14 (kg14.fi 6274 rfl) (kg14.fi 6275 rfl))))⟩)
def zw16_100 : kW := ([6400, 6403], [], [], [])
set_option maxRecDepth 100000 in
theorem kf16_100 {i : Nat → Int32} {a : Nat → List Int32} {q : Nat → List Int64} {r : Nat → Nat} (hI : kI i a q) (hr : kr r)  : km 1 16 [.ref 100] (ks i a q r) (kVN zw16_100 i a q r (fun i1 a1 q1 r1 => (True) ∧ (i1 6400 = 0 ∧ i1 6403 = 0))) := by
  have hG := kG_self zw16_100 hI hr
  refine km_ofN (q := (mi_h16, mi_c16)) rfl (by decide) (Nat.le_of_ble_eq_true rfl) ?_
  intro P hP
  have hJ1 := kG_i hG 6400 rfl (v := 0) ⟨(op36 kop0), (op157 kop0)⟩
  have hJ2 := kG_i hJ1 6403 rfl (v := 0) ⟨(op36 kop0), (op158 kop0)⟩
  refine ft_go mi_k16 6 10 [(0, .ref 100)] [] (ku (ku i 6400 0) 6403 0) a q r (by rfl) ?_
  exact ft_ret mi_k16 (by rfl) (hP  _ _ _ _ hJ2 ⟨trivial, ⟨(show (0 : Int32) = 0 from (by first | rfl | (simp only [sMn, sMx]; done) | (simp only [sMn, sMx]; rfl))), (show (0 : Int32) = 0 from (by first | rfl | (simp only [sMn, sMx]; done) | (simp only [sMn, sMx]; rfl)))⟩⟩)
def yw44_98_L100 : kW := ([6274, 6275, 6400, 6403], [101, 102], [], [])
def yw44_98_L100_L23 : kW := ([6274, 6275, 6403], [101, 102], [], [])
set_option maxRecDepth 100000 in
theorem ke44_98_L100 {i : Nat → Int32} {a : Nat → List Int32} {q : Nat → List Int64} {r : Nat → Nat} (hI : kI i a q) (hr : kr r) (t : List Int32) (nn : Int32) (hT : a 99 = t) (hN : i 6273 = nn) (hL : r 2 = 100) (hX : kBy t) : km 55 44 [.ref 98] (ks i a q r) (kVI yw44_98_L100 i a q r (fun v i1 a1 q1 r1 => ((v.toInt = (-1)) ∨ ((0 : Int) ≤ v.toInt)) ∧ ((cOk nn (cTxt t nn (a 101) (a 102)) ∧ v = -1 ∧ i1 6400 = 1 ∧ (a1 101, a1 102, i1 6403) = (cTxt t nn (a 101) (a 102)).2.2) ∨ (¬ cOk nn (cTxt t nn (a 101) (a 102)) ∧ v = (cTxt t nn (a 101) (a 102)).1 ∧ 0 ≤ v.toInt)))) := by
  have hG := kG_self yw44_98_L100 hI hr
  refine km_ofI (q := (mi_h44, mi_c44)) rfl (by decide) (Nat.le_of_ble_eq_true rfl) ?_
  intro P hP
  have hn1 : (i 6273).toInt = nn.toInt := congrArg Int32.toInt hN
  have eRr_2 : r 2 = 100 := hL
  have hJ2 := kG_i hG 6274 rfl (v := 0) ⟨(op36 kop0), (op156 kop0)⟩
  have hJ3 := kG_i hJ2 6275 rfl (v := 0) ⟨(op36 kop0), (op157 kop0)⟩
  refine ft_go mi_k44 8 14 [(0, .ref 98)] [.ref (r 2)] (ku (ku i 6274 0) 6275 0) a q r (by rfl) ?_
  refine ko_eq (x1 := (14, [(0, .ref 98)], [.ref 100], (0, 0), ks (ku (ku i 6274 0) 6275 0) a q r)) (by rw [eRr_2]) ?_
  refine ko_callN mi_k44.1 (pc := 14) (ls := [(0, .ref 98)]) (st := [.ref 100]) (h := ks (ku (ku i 6274 0) 6275 0) a q r) (i := (.invokevirtual 33, 3, 16, 0, 9, 0, 176)) (mi_k44.2 _ _ (by rfl)) (ft_invS mi_pq16 (by rfl)) (cy := mi_c16) mi_pq16 rfl (kf16_100 hJ3.I hJ3.R ) (by decide) ?_
  intro ig4 ag4 qg4 rg4 kg4 hg4
  have hGg4 := kG_call hJ3 kg4 (by decide +kernel)
  have eRrg4_2 : rg4 2 = 100 := (kg4.fr 2 rfl).trans eRr_2
  obtain ⟨hg4, og4⟩ := hg4
  have q5 : ig4 6400 = 0 := og4.1
  have q6 : ig4 6403 = 0 := og4.2
  refine ft_go mi_k44 1 18 [(0, .ref 98)] [.ref 98] ig4 ag4 qg4 rg4 (by rfl) ?_
  refine ko_callN mi_k44.1 (pc := 18) (ls := [(0, .ref 98)]) (st := [.ref 98]) (h := ks ig4 ag4 qg4 rg4) (i := (.invokevirtual 36, 3, 48, 0, 9, 0, 177)) (mi_k44.2 _ _ (by rfl)) (ft_invS mi_pq48 (by rfl)) (cy := mi_c48) mi_pq48 rfl (ke48_98_L100 hGg4.I hGg4.R t nn ((kg4.fa 99 rfl).trans hT) ((kg4.fi 6273 rfl).trans hN) eRrg4_2 hX) (by decide) ?_
  intro ig7 ag7 qg7 rg7 kg7 hg7
  have hGg7 := kG_call hGg4 kg7 (by decide +kernel)
  have eRrg7_2 : rg7 2 = 100 := (kg7.fr 2 rfl).trans eRrg4_2
  obtain ⟨hg7, og7⟩ := hg7
  refine ft_go mi_k44 2 23 [(1, .int 0), (0, .ref 98)] [] ig7 ag7 qg7 rg7 (by rfl) ?_
  have lp8 : ∀ (nz : Nat) (i8 : Nat → Int32) (a8 : Nat → List Int32) (q8 : Nat → List Int64) (r8 : Nat → Nat) (l1_8 : Int32), kG yw44_98_L100_L23 ig7 ag7 qg7 rg7 i8 a8 q8 r8 → (0 : Int) ≤ l1_8.toInt → cLpL t nn (nn.toInt - l1_8.toInt).toNat (i8 6274, i8 6275, a8 101, a8 102, i8 6403) = (cTxt t nn (a 101) (a 102)) → (((i8 6273).toInt - l1_8.toInt)).toNat < nz → ko 55 (mi_h44, mi_c44) P (23, [(1, .int l1_8), (0, .ref 98)], [], (0, 0), ks i8 a8 q8 r8) := by
    intro nz
    induction nz with
    | zero =>
      intro _ _ _ _ _ _ _ _ hm
      exact absurd hm (Nat.not_lt_zero _)
    | succ nz ih8 =>
      intro i8 a8 q8 r8 l1_8 hL8 p8_0 O8_0 hm8
      have fi8_6273 : ((0 : Int) ≤ (i8 6273).toInt) ∧ ((i8 6273).toInt ≤ 120) := hL8.I.1 6273
      have fig7_6273 : ((0 : Int) ≤ (ig7 6273).toInt) ∧ ((ig7 6273).toInt ≤ 120) := hGg7.I.1 6273
      have fig4_6273 : ((0 : Int) ≤ (ig4 6273).toInt) ∧ ((ig4 6273).toInt ≤ 120) := hGg4.I.1 6273
      have fi_6273 : ((0 : Int) ≤ (i 6273).toInt) ∧ ((i 6273).toInt ≤ 120) := hJ3.I.1 6273
      have efig4_6273 : (ig4 6273).toInt = (i 6273).toInt := kg4.ti 6273 rfl
      have efig7_6273 : (ig7 6273).toInt = (ig4 6273).toInt := kg7.ti 6273 rfl
      have efi8_6273 : (i8 6273).toInt = (ig7 6273).toInt := hL8.ti 6273 rfl
      have eRr8_2 : r8 2 = 100 := (hL8.fr 2 rfl).trans eRrg7_2
      refine ft_go mi_k44 3 28 [(1, .int l1_8), (0, .ref 98)] [.int (i8 6273), .int l1_8] i8 a8 q8 r8 (by rfl) ?_
      refine ft_if mi_k44 (decide ((i8 6273) ≤ l1_8)) 50 31 [(1, .int l1_8), (0, .ref 98)] [] (by rfl) (fun c => ?_) (fun c => ?_)
      ·
        have c9 : (i8 6273).toInt ≤ l1_8.toInt := kd_le c; clear c
        have hG10 := kG_call hGg7 hL8 (by decide +kernel)
        have hD11 : (i8 6274, i8 6275, a8 101, a8 102, i8 6403) = (cTxt t nn (a 101) (a 102)) := cLL_end O8_0 (kj_sub0 (n := nn.toInt) (op116 c9 efi8_6273 efig4_6273 efig7_6273 hn1))
        have fi8_6275 : ((0 : Int) ≤ (i8 6275).toInt) ∧ ((i8 6275).toInt ≤ 1) := hG10.I.1 6275
        refine ft_go mi_k44 2 54 [(1, .int l1_8), (0, .ref 98)] [.int (i8 6275)] i8 a8 q8 r8 (by rfl) ?_
        refine ft_if mi_k44 ((i8 6275) != 0) 68 57 [(1, .int l1_8), (0, .ref 98)] [] (by rfl) (fun c => ?_) (fun c => ?_)
        ·
          have c12 : (i8 6275).toInt ≠ (0 : Int32).toInt := kd_ne c; clear c
          have fi8_6274 : ((0 : Int) ≤ (i8 6274).toInt) ∧ ((i8 6274).toInt ≤ 120) := hG10.I.1 6274
          refine ft_go mi_k44 2 72 [(1, .int l1_8), (0, .ref 98)] [.int (i8 6274)] i8 a8 q8 r8 (by rfl) ?_
          exact ft_ret mi_k44 (by rfl) (hP (i8 6274) _ _ _ _ hG10 ⟨(op159 fi8_6274.1), (rd_bad hD11 (op160 c12 fi8_6275.1 kop0) rfl (op4 fi8_6274.1))⟩)
        ·
          have c13 : (i8 6275).toInt = (0 : Int32).toInt := kd_neF c; clear c
          have fi8_6274 : ((0 : Int) ≤ (i8 6274).toInt) ∧ ((i8 6274).toInt ≤ 120) := hG10.I.1 6274
          refine ft_go mi_k44 4 65 [(1, .int l1_8), (0, .ref 98)] [.int (i8 6273), .int (i8 6274)] i8 a8 q8 r8 (by rfl) ?_
          refine ft_if mi_k44 (decide ((i8 6273) ≤ (i8 6274))) 73 68 [(1, .int l1_8), (0, .ref 98)] [] (by rfl) (fun c => ?_) (fun c => ?_)
          ·
            have c14 : (i8 6273).toInt ≤ (i8 6274).toInt := kd_le c; clear c
            refine ft_go mi_k44 2 77 [(1, .int l1_8), (0, .ref 98)] [.ref (r8 2)] i8 a8 q8 r8 (by rfl) ?_
            refine ko_eq (x1 := (77, [(1, .int l1_8), (0, .ref 98)], [.ref 100], (0, 0), ks i8 a8 q8 r8)) (by rw [eRr8_2]) ?_
            have hJ15 := kG_i hG10 6400 rfl (v := 1) ⟨(op62 kop1), (op63 kop1)⟩
            refine ft_go mi_k44 3 82 [(1, .int l1_8), (0, .ref 98)] [.int (-1)] (ku i8 6400 1) a8 q8 r8 (by rfl) ?_
            exact ft_ret mi_k44 (by rfl) (hP (-1) _ _ _ _ hJ15 ⟨(op161 kopm1), (rd_ok hD11 (op7 c13 fi8_6275.1 kop0) (op116 c14 efi8_6273 efig4_6273 efig7_6273 hn1) rfl rfl rfl)⟩)
          ·
            have c16 : (i8 6274).toInt < (i8 6273).toInt := kd_leF c; clear c
            refine ft_go mi_k44 2 72 [(1, .int l1_8), (0, .ref 98)] [.int (i8 6274)] i8 a8 q8 r8 (by rfl) ?_
            exact ft_ret mi_k44 (by rfl) (hP (i8 6274) _ _ _ _ hG10 ⟨(op159 fi8_6274.1), (rd_bad hD11 (op162 c16 efi8_6273 efig4_6273 efig7_6273 hn1) rfl (op4 fi8_6274.1))⟩)
      ·
        have c17 : l1_8.toInt < (i8 6273).toInt := kd_leF c; clear c
        refine ft_go mi_k44 2 34 [(1, .int l1_8), (0, .ref 98)] [.int 59, .ref 98] i8 a8 q8 r8 (by rfl) ?_
        refine ko_callI mi_k44.1 (pc := 34) (ls := [(1, .int l1_8), (0, .ref 98)]) (st := [.int 59, .ref 98]) (h := ks i8 a8 q8 r8) (i := (.invokevirtual 39, 3, 46, 0, 9, 0, 200)) (mi_k44.2 _ _ (by rfl)) (ft_invS mi_pq46 (by rfl)) (cy := mi_c46) mi_pq46 rfl (ke46_98 hL8.I hL8.R 59 (op163 kop59) t nn ((((hL8.fa 99 rfl).trans (kg7.fa 99 rfl)).trans (kg4.fa 99 rfl)).trans hT) (((hL8.fi 6273 rfl).trans ((kg7.fi 6273 rfl).trans (kg4.fi 6273 rfl))).trans hN) hX) (by decide) ?_
        intro vg18 ig18 ag18 qg18 rg18 kg18 hg18
        have hGg18 := kG_call hL8 kg18 (by decide +kernel)
        have eRrg18_2 : rg18 2 = 100 := (kg18.fr 2 rfl).trans eRr8_2
        obtain ⟨hg18, og18⟩ := hg18
        have fig18_6274 : ((0 : Int) ≤ (ig18 6274).toInt) ∧ ((ig18 6274).toInt ≤ 120) := hGg18.I.1 6274
        have fi8_6274 : ((0 : Int) ≤ (i8 6274).toInt) ∧ ((i8 6274).toInt ≤ 120) := hL8.I.1 6274
        have fi8_6275 : ((0 : Int) ≤ (i8 6275).toInt) ∧ ((i8 6275).toInt ≤ 1) := hL8.I.1 6275
        have z19 : ((vg18.toInt = 1) ∧ ((ig18 6274).toInt = ((i8 6274).toInt + 1)) ∧ ((i8 6274).toInt < (i8 6273).toInt) ∧ ((i8 6275).toInt = 0)) ∨ ((vg18.toInt = 0) ∧ ((ig18 6274).toInt = (i8 6274).toInt)) := hg18
        refine ft_if mi_k44 (vg18 == 0) 50 40 [(1, .int l1_8), (0, .ref 98)] [] (by rfl) (fun c => ?_) (fun c => ?_)
        ·
          have c20 : vg18.toInt = (0 : Int32).toInt := kd_eq c; clear c
          have hG21 := kG_call hGg7 hGg18 (by decide +kernel)
          have hD22 : (ig18 6274, ig18 6275, ag18 101, ag18 102, ig18 6403) = (cTxt t nn (a 101) (a 102)) := cLL_out O8_0 (kj_sub1 (n := nn.toInt) (op118 c17 efi8_6273 efig4_6273 efig7_6273 hn1) (op4 p8_0)) (tTk og18 (kg18.fi 6275 rfl) (kT3 (kg18.fa 101 rfl) (kg18.fa 102 rfl) (kg18.fi 6403 rfl))) (op98 c20 kop0)
          have fig18_6275 : ((0 : Int) ≤ (ig18 6275).toInt) ∧ ((ig18 6275).toInt ≤ 1) := hG21.I.1 6275
          have efig18_6275 : (ig18 6275).toInt = (i8 6275).toInt := kg18.ti 6275 rfl
          refine ft_go mi_k44 2 54 [(1, .int l1_8), (0, .ref 98)] [.int (ig18 6275)] ig18 ag18 qg18 rg18 (by rfl) ?_
          refine ft_if mi_k44 ((ig18 6275) != 0) 68 57 [(1, .int l1_8), (0, .ref 98)] [] (by rfl) (fun c => ?_) (fun c => ?_)
          ·
            have c23 : (ig18 6275).toInt ≠ (0 : Int32).toInt := kd_ne c; clear c
            refine ft_go mi_k44 2 72 [(1, .int l1_8), (0, .ref 98)] [.int (ig18 6274)] ig18 ag18 qg18 rg18 (by rfl) ?_
            exact ft_ret mi_k44 (by rfl) (hP (ig18 6274) _ _ _ _ hG21 ⟨(op159 fig18_6274.1), (rd_bad hD22 (op160 c23 fig18_6275.1 kop0) rfl (op4 fig18_6274.1))⟩)
          ·
            have c24 : (ig18 6275).toInt = (0 : Int32).toInt := kd_neF c; clear c
            have fig18_6273 : ((0 : Int) ≤ (ig18 6273).toInt) ∧ ((ig18 6273).toInt ≤ 120) := hG21.I.1 6273
            have efig18_6273 : (ig18 6273).toInt = (i8 6273).toInt := kg18.ti 6273 rfl
            refine ft_go mi_k44 4 65 [(1, .int l1_8), (0, .ref 98)] [.int (ig18 6273), .int (ig18 6274)] ig18 ag18 qg18 rg18 (by rfl) ?_
            refine ft_if mi_k44 (decide ((ig18 6273) ≤ (ig18 6274))) 73 68 [(1, .int l1_8), (0, .ref 98)] [] (by rfl) (fun c => ?_) (fun c => ?_)
            ·
              have c25 : (ig18 6273).toInt ≤ (ig18 6274).toInt := kd_le c; clear c
              refine ft_go mi_k44 2 77 [(1, .int l1_8), (0, .ref 98)] [.ref (rg18 2)] ig18 ag18 qg18 rg18 (by rfl) ?_
              refine ko_eq (x1 := (77, [(1, .int l1_8), (0, .ref 98)], [.ref 100], (0, 0), ks ig18 ag18 qg18 rg18)) (by rw [eRrg18_2]) ?_
              have hJ26 := kG_i hG21 6400 rfl (v := 1) ⟨(op62 kop1), (op63 kop1)⟩
              refine ft_go mi_k44 3 82 [(1, .int l1_8), (0, .ref 98)] [.int (-1)] (ku ig18 6400 1) ag18 qg18 rg18 (by rfl) ?_
              exact ft_ret mi_k44 (by rfl) (hP (-1) _ _ _ _ hJ26 ⟨(op161 kopm1), (rd_ok hD22 (op7 c24 fig18_6275.1 kop0) (op164 c25 efi8_6273 efig18_6273 efig4_6273 efig7_6273 hn1) rfl rfl rfl)⟩)
            ·
              have c27 : (ig18 6274).toInt < (ig18 6273).toInt := kd_leF c; clear c
              refine ft_go mi_k44 2 72 [(1, .int l1_8), (0, .ref 98)] [.int (ig18 6274)] ig18 ag18 qg18 rg18 (by rfl) ?_
              exact ft_ret mi_k44 (by rfl) (hP (ig18 6274) _ _ _ _ hG21 ⟨(op159 fig18_6274.1), (rd_bad hD22 (op165 c27 efi8_6273 efig18_6273 efig4_6273 efig7_6273 hn1) rfl (op4 fig18_6274.1))⟩)
        ·
          have c28 : vg18.toInt ≠ (0 : Int32).toInt := kd_eqF c; clear c
          refine ft_go mi_k44 1 41 [(1, .int l1_8), (0, .ref 98)] [.ref 98] ig18 ag18 qg18 rg18 (by rfl) ?_
          refine ko_callN mi_k44.1 (pc := 41) (ls := [(1, .int l1_8), (0, .ref 98)]) (st := [.ref 98]) (h := ks ig18 ag18 qg18 rg18) (i := (.invokevirtual 36, 3, 48, 0, 9, 0, 177)) (mi_k44.2 _ _ (by rfl)) (ft_invS mi_pq48 (by rfl)) (cy := mi_c48) mi_pq48 rfl (ke48_98_L100 hGg18.I hGg18.R t nn (((((kg18.fa 99 rfl).trans (hL8.fa 99 rfl)).trans (kg7.fa 99 rfl)).trans (kg4.fa 99 rfl)).trans hT) (((kg18.fi 6273 rfl).trans ((hL8.fi 6273 rfl).trans ((kg7.fi 6273 rfl).trans (kg4.fi 6273 rfl)))).trans hN) eRrg18_2 hX) (by decide) ?_
          intro ig29 ag29 qg29 rg29 kg29 hg29
          have hGg29 := kG_call hGg18 kg29 (by decide +kernel)
          have eRrg29_2 : rg29 2 = 100 := (kg29.fr 2 rfl).trans eRrg18_2
          obtain ⟨hg29, og29⟩ := hg29
          have s30 : (l1_8 + 1).toInt = l1_8.toInt + (1 : Int32).toInt := kd_add (op18 p8_0 kop1) (op117 c17 fi8_6273.2 kop1)
          refine ft_go mi_k44 2 23 [(1, .int (l1_8 + 1)), (0, .ref 98)] [] ig29 ag29 qg29 rg29 (by rfl) ?_
          have fig29_6273 : ((0 : Int) ≤ (ig29 6273).toInt) ∧ ((ig29 6273).toInt ≤ 120) := hGg29.I.1 6273
          have fig18_6273 : ((0 : Int) ≤ (ig18 6273).toInt) ∧ ((ig18 6273).toInt ≤ 120) := hGg18.I.1 6273
          have efig18_6273 : (ig18 6273).toInt = (i8 6273).toInt := kg18.ti 6273 rfl
          have efig29_6273 : (ig29 6273).toInt = (ig18 6273).toInt := kg29.ti 6273 rfl
          exact ih8 _ _ _ _ _ hGg29 (op20 p8_0 s30 kop1) (cLL_again O8_0 (kj_sub2 (n := nn.toInt) (op118 c17 efi8_6273 efig4_6273 efig7_6273 hn1) (op4 p8_0) (op30 s30 kop1)) (tTk og18 (kg18.fi 6275 rfl) (kT3 (kg18.fa 101 rfl) (kg18.fa 102 rfl) (kg18.fi 6403 rfl))) (op146 c28 z19 kop0) og29) (kj_meas (op166 efig18_6273 efig29_6273 s30 kop1) (op121 c17) hm8)
  exact lp8 _ _ _ _ _ _ (kG_self _ hGg7.I hGg7.R) (op36 kop0) (cLL_begin og7 (kS5 (show ig4 6274 = 0 from (by first | rfl | (simp only [(show ig4 6274 = (0 : Int32) from kg4.fi 6274 rfl), sMn, sMx]; done) | (simp only [(show ig4 6274 = (0 : Int32) from kg4.fi 6274 rfl), sMn, sMx]; rfl))) (show ig4 6275 = 0 from (by first | rfl | (simp only [(show ig4 6275 = (0 : Int32) from kg4.fi 6275 rfl), sMn, sMx]; done) | (simp only [(show ig4 6275 = (0 : Int32) from kg4.fi 6275 rfl), sMn, sMx]; rfl))) (show ag4 101 = a 101 from (by first | rfl | (simp only [kg4.fa 101 rfl, sMn, sMx]; done) | (simp only [kg4.fa 101 rfl, sMn, sMx]; rfl))) (show ag4 102 = a 102 from (by first | rfl | (simp only [kg4.fa 102 rfl, sMn, sMx]; done) | (simp only [kg4.fa 102 rfl, sMn, sMx]; rfl))) (show ig4 6403 = 0 from (by first | rfl | (simp only [q6, sMn, sMx]; done) | (simp only [q6, sMn, sMx]; rfl)))) (kj_sub00 kop0)) (Nat.lt_succ_self _)
def yw86_0_L100 : kW := ([6273, 6274, 6275, 6400, 6403], [101, 102], [], [0, 2])
set_option maxRecDepth 100000 in
theorem ke86_0_L100 {i : Nat → Int32} {a : Nat → List Int32} {q : Nat → List Int64} {r : Nat → Nat} (hI : kI i a q) (hr : kr r) (t : List Int32) (nn : Int32) (hT : a 99 = t) (hN : i 6273 = nn) (hL : r 2 = 100) (hX : kBy t) : km 57 86 [.ref 0] (ks i a q r) (kVI yw86_0_L100 i a q r (fun v i1 a1 q1 r1 => ((i1 6273).toInt = 0) ∧ ((cOk nn (cTxt t nn (a 101) (a 102)) ∧ v = 1 ∧ r1 0 = 100 ∧ r1 2 = 10 ∧ i1 6400 = 1 ∧ (a1 101, a1 102, i1 6403) = (cTxt t nn (a 101) (a 102)).2.2) ∨ (¬ cOk nn (cTxt t nn (a 101) (a 102)) ∧ v = -100 - (cTxt t nn (a 101) (a 102)).1 ∧ r1 0 = 10 ∧ r1 2 = 100)))) := by
  have hG := kG_self yw86_0_L100 hI hr
  refine km_ofI (q := (mi_h86, mi_c86)) rfl (by decide) (Nat.le_of_ble_eq_true rfl) ?_
  intro P hP
  have hn1 : (i 6273).toInt = nn.toInt := congrArg Int32.toInt hN
  have eRr_2 : r 2 = 100 := hL
  have eRr_0 : r 0 = 10 := kr_0 hr hL (by decide)
  refine ft_go mi_k86 2 4 [(0, .ref 0)] [.ref 98] i a q r (by rfl) ?_
  refine ko_callI mi_k86.1 (pc := 4) (ls := [(0, .ref 0)]) (st := [.ref 98]) (h := ks i a q r) (i := (.invokevirtual 113, 3, 44, 0, 9, 0, 175)) (mi_k86.2 _ _ (by rfl)) (ft_invS mi_pq44 (by rfl)) (cy := mi_c44) mi_pq44 rfl (ke44_98_L100 hG.I hG.R t nn hT hN eRr_2 hX) (by decide) ?_
  intro vg2 ig2 ag2 qg2 rg2 kg2 hg2
  have hGg2 := kG_call hG kg2 (by decide +kernel)
  have eRrg2_0 : rg2 0 = 10 := (kg2.fr 0 rfl).trans eRr_0
  have eRrg2_2 : rg2 2 = 100 := (kg2.fr 2 rfl).trans eRr_2
  obtain ⟨hg2, og2⟩ := hg2
  have z3 : (vg2.toInt = (-1)) ∨ ((0 : Int) ≤ vg2.toInt) := hg2
  have hJ4 := kG_i hGg2 6273 rfl (v := 0) ⟨(op36 kop0), (op156 kop0)⟩
  refine ft_go mi_k86 6 17 [(1, .int vg2), (0, .ref 0)] [.int vg2] (ku ig2 6273 0) ag2 qg2 rg2 (by rfl) ?_
  refine ft_if mi_k86 (decide (vg2 < 0)) 25 20 [(1, .int vg2), (0, .ref 0)] [] (by rfl) (fun c => ?_) (fun c => ?_)
  ·
    have c5 : vg2.toInt < (0 : Int32).toInt := kd_lt c; clear c
    refine ft_go mi_k86 7 40 [(1, .int vg2), (0, .ref 0)] [.ref (rg2 0), .ref 98, .ref 1] (ku ig2 6273 0) ag2 qg2 rg2 (by rfl) ?_
    refine ko_eq (x1 := (40, [(1, .int vg2), (0, .ref 0)], [.ref 10, .ref 98, .ref 1], (0, 0), ks (ku ig2 6273 0) ag2 qg2 rg2)) (by rw [eRrg2_0]) ?_
    refine ko_callP mi_k86.1 (pc := 40) (ls := [(1, .int vg2), (0, .ref 0)]) (st := [.ref 10, .ref 98, .ref 1]) (h := ks (ku ig2 6273 0) ag2 qg2 rg2) (i := (.invokevirtual 121, 3, 43, 0, 9, 0, 205)) (mi_k86.2 _ _ (by rfl)) (ft_invS mi_pq43 (by rfl)) (cy := mi_c43) mi_pq43 rfl (kc43 (ku ig2 6273 0) ag2 qg2 rg2 10) (by decide) ?_
    rintro _ _ ⟨rfl, rfl⟩
    refine ko_eq (x1 := (43, [(1, .int vg2), (0, .ref 0)], [.ref 100, .ref 1], (0, 0), ks (ku ig2 6273 0) ag2 qg2 (ku rg2 2 10))) (by rw [eRrg2_2] <;> rfl) ?_
    have hJ6 := kG_r2 hJ4 2 rfl 0 rfl (v := 10) (v2 := 100) (by first | exact ⟨Or.inl ⟨rfl, rfl⟩, hJ4.R.2⟩ | exact ⟨Or.inr ⟨rfl, rfl⟩, hJ4.R.2⟩)
    refine ko_steps mi_in86 2 _ (47, [(1, .int vg2), (0, .ref 0)], [.int 1], (0, 0), ks (ku ig2 6273 0) ag2 qg2 (ku (ku rg2 2 10) 0 100)) (by rfl) ?_
    exact ft_ret mi_k86 (by rfl) (hP 1 _ _ _ _ hJ6 ⟨(op41 kop0), (lw_ok og2 (op167 c5 kop0) rfl rfl rfl rfl (kT3 rfl rfl rfl))⟩)
  ·
    have c7 : (0 : Int32).toInt ≤ vg2.toInt := kd_ltF c; clear c
    have b8 : ((-2147483648 : Int) ≤ vg2.toInt) ∧ (vg2.toInt ≤ 2147483647) := kd_bd vg2
    refine ft_go mi_k86 3 24 [(1, .int vg2), (0, .ref 0)] [.int ((-100) - vg2)] (ku ig2 6273 0) ag2 qg2 rg2 (by rfl) ?_
    exact ft_ret mi_k86 (by rfl) (hP ((-100) - vg2) _ _ _ _ hJ4 ⟨(op41 kop0), (lw_bad og2 (op153 c7 kop0) rfl eRrg2_0 eRrg2_2)⟩)
