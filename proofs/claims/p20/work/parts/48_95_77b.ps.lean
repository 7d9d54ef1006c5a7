set_option maxRecDepth 100000 in
set_option maxHeartbeats 4000000 in
theorem kMsQ_152 (n : Nat)  (ih : ∀ m, n = m + 1 → kMQ_157 m ∧ kMQ_152 m) : kMQ_152 n := by
  intro i a q r hI hr hp0 hp1 hp2 t nn hT hN hX
  have hG := kG_self wQ hI hr
  refine km_ofI (q := (mi_h152, mi_c152)) rfl (by decide) (Nat.le_of_ble_eq_true rfl) ?_
  intro P hP
  have fi_7439 : ((0 : Int) ≤ (i 7439).toInt) ∧ ((i 7439).toInt ≤ 200) := hG.I.1 7439
  have fi_7437 : ((0 : Int) ≤ (i 7437).toInt) ∧ ((i 7437).toInt ≤ 120) := hG.I.1 7437
  have fi_7429 : ((0 : Int) ≤ (i 7429).toInt) ∧ ((i 7429).toInt ≤ 120) := hG.I.1 7429
  have hn0 : (0 : Int) ≤ (n : Int) := Int.natCast_nonneg n
  have hn1 : (i 7429).toInt = nn.toInt := congrArg Int32.toInt hN
  refine ft_go mi_k152 1 1 [(0, .ref 116)] [.ref 116] i a q r (by rfl) ?_
  refine ko_callPI mi_k152.1 (pc := 1) (ls := [(0, .ref 116)]) (st := [.ref 116]) (h := ks i a q r) (i := (.invokevirtual 173, 3, 150, 0, 9, 0, 403)) (mi_k152.2 _ _ (by rfl)) (ft_invS mi_pq150 (by rfl)) (cy := mi_c150) mi_pq150 rfl (ke150_116 hG.I hG.R t nn hT hN hX) (kj_d3 (n := n) (c := 3) (o1 := 10) (by decide)) ?_
  intro vg2 hg2
  have z3 : (((vg2.toInt = 1) ∧ ((48 : Int) ≤ (cHr t nn (i 7437) 0).toInt) ∧ ((cHr t nn (i 7437) 0).toInt ≤ 57) ∧ ((i 7437).toInt < (i 7429).toInt)) ∨ (vg2.toInt = 0)) ∧ (((vg2.toInt = 0) → (¬ (((48 : Int) ≤ (cHr t nn (i 7437) 0).toInt) ∧ ((cHr t nn (i 7437) 0).toInt ≤ 57))))) := hg2
  refine ft_if mi_k152 (vg2 == 0) 66 7 [(0, .ref 116)] [] (by rfl) (fun c => ?_) (fun c => ?_)
  ·
    have c4 : vg2.toInt = (0 : Int32).toInt := kd_eq c; clear c
    refine ft_go mi_k152 1 67 [(0, .ref 116)] [.ref 116] i a q r (by rfl) ?_
    refine ko_callPI mi_k152.1 (pc := 67) (ls := [(0, .ref 116)]) (st := [.ref 116]) (h := ks i a q r) (i := (.invokevirtual 166, 3, 147, 0, 9, 0, 404)) (mi_k152.2 _ _ (by rfl)) (ft_invS mi_pq147 (by rfl)) (cy := mi_c147) mi_pq147 rfl (ke147_116 hG.I hG.R t nn hT hN hX) (kj_d3 (n := n) (c := 1) (o1 := 10) (by decide)) ?_
    intro vg5 hg5
    obtain ⟨hg5, og5⟩ := hg5
    have z6 : (((-1) : Int) ≤ vg5.toInt) ∧ (vg5.toInt ≤ 255) ∧ ((vg5.toInt = (-1)) ∨ ((i 7437).toInt < (i 7429).toInt)) := hg5
    have q7 : vg5 = cHr t nn (i 7437) 0 := og5
    have hv8 : vg5.toInt = (cHr t nn (i 7437) 0).toInt := congrArg Int32.toInt og5
    refine ko_callPI mi_k152.1 (pc := 70) (ls := [(0, .ref 116)]) (st := [.int vg5]) (h := ks i a q r) (i := (.invokestatic 180, 3, 151, 0, 9, 0, 406)) (mi_k152.2 _ _ (by rfl)) (ft_invS mi_pq151 (by rfl)) (cy := mi_c151) mi_pq151 rfl (ke151 hG.I hG.R vg5) (kj_d3 (n := n) (c := 1) (o1 := 10) (by decide)) ?_
    intro vg9 hg9
    obtain ⟨hg9, og9⟩ := hg9
    have z10 : (((-1) : Int) ≤ vg9.toInt) ∧ (vg9.toInt ≤ 5) ∧ ((vg9.toInt = (-1)) ∨ ((100 : Int) ≤ vg5.toInt)) := hg9
    have q11 : vg9 = nmO vg5 := og9
    refine ft_go mi_k152 2 75 [(1, .int vg9), (0, .ref 116)] [.int vg9] i a q r (by rfl) ?_
    refine ft_if mi_k152 (decide (vg9 < 0)) 94 78 [(1, .int vg9), (0, .ref 116)] [] (by rfl) (fun c => ?_) (fun c => ?_)
    ·
      have c12 : vg9.toInt < (0 : Int32).toInt := kd_lt c; clear c
      refine ft_go mi_k152 3 100 [(1, .int vg9), (0, .ref 116)] [.int 6, .int (i 7438)] i a q r (by rfl) ?_
      refine ft_if mi_k152 ((i 7438) != 6) 105 103 [(1, .int vg9), (0, .ref 116)] [] (by rfl) (fun c => ?_) (fun c => ?_)
      ·
        have c13 : (i 7438).toInt ≠ (6 : Int32).toInt := kd_ne c; clear c
        have b14 : ((-2147483648 : Int) ≤ (i 7438).toInt) ∧ ((i 7438).toInt ≤ 2147483647) := kd_bd (i 7438)
        have s15 : ((i 7438) + 1).toInt = (i 7438).toInt + (1 : Int32).toInt := kd_add (oq113 b14.1 koq1) (oq114 hn0 hp0 koq1)
        have hJ16 := kG_i hG 7438 rfl (v := ((i 7438) + 1)) (kd_bd _)
        refine ft_go mi_k152 8 118 [(1, .int vg9), (0, .ref 116)] [.int 33, .ref 116] (ku i 7438 ((i 7438) + 1)) a q r (by rfl) ?_
        refine ko_callI mi_k152.1 (pc := 118) (ls := [(1, .int vg9), (0, .ref 116)]) (st := [.int 33, .ref 116]) (h := ks (ku i 7438 ((i 7438) + 1)) a q r) (i := (.invokevirtual 187, 3, 148, 0, 9, 0, 407)) (mi_k152.2 _ _ (by rfl)) (ft_invS mi_pq148 (by rfl)) (cy := mi_c148) mi_pq148 rfl (ke148_116 hJ16.I hJ16.R 33 (oq123 koq33) t nn hT hN hX) (kj_d3 (n := n) (c := 3) (o1 := 10) (by decide)) ?_
        intro vg17 ig17 ag17 qg17 rg17 kg17 hg17
        have hGg17 := kG_call hJ16 kg17 (by decide +kernel)
        obtain ⟨hg17, og17⟩ := hg17
        have z18 : (((vg17.toInt = 1) ∧ ((ig17 7437).toInt = ((i 7437).toInt + 1)) ∧ ((i 7437).toInt < (i 7429).toInt) ∧ ((cHr t nn (i 7437) 0).toInt = (33 : Int32).toInt)) ∨ ((vg17.toInt = 0) ∧ ((ig17 7437).toInt = (i 7437).toInt))) ∧ (((vg17.toInt = 0) → ((cHr t nn (i 7437) 0).toInt ≠ (33 : Int32).toInt))) := hg17
        have q19 : ((ig17 7437).toInt = (i 7437).toInt → (cHr t nn (ig17 7437) 0).toInt = (cHr t nn (i 7437) 0).toInt) := fun h => congrArg Int32.toInt (kHr_c (t := t) (n := nn) (kj_v h) rfl)
        refine ft_if mi_k152 (vg17 == 0) 149 124 [(1, .int vg9), (0, .ref 116)] [] (by rfl) (fun c => ?_) (fun c => ?_)
        ·
          have c20 : vg17.toInt = (0 : Int32).toInt := kd_eq c; clear c
          refine ft_go mi_k152 2 152 [(1, .int vg9), (0, .ref 116)] [.int 45, .ref 116] ig17 ag17 qg17 rg17 (by rfl) ?_
          refine ko_callI mi_k152.1 (pc := 152) (ls := [(1, .int vg9), (0, .ref 116)]) (st := [.int 45, .ref 116]) (h := ks ig17 ag17 qg17 rg17) (i := (.invokevirtual 187, 3, 148, 0, 9, 0, 407)) (mi_k152.2 _ _ (by rfl)) (ft_invS mi_pq148 (by rfl)) (cy := mi_c148) mi_pq148 rfl (ke148_116 hGg17.I hGg17.R 45 (oq124 koq45) t nn ((kg17.fa 119 rfl).trans hT) ((kg17.fi 7429 rfl).trans hN) hX) (kj_d3 (n := n) (c := 3) (o1 := 10) (by decide)) ?_
          intro vg21 ig21 ag21 qg21 rg21 kg21 hg21
          have hGg21 := kG_call hGg17 kg21 (by decide +kernel)
          obtain ⟨hg21, og21⟩ := hg21
          have efig17_7429 : (ig17 7429).toInt = (i 7429).toInt := kg17.ti 7429 rfl
          have z22 : (((vg21.toInt = 1) ∧ ((ig21 7437).toInt = ((ig17 7437).toInt + 1)) ∧ ((ig17 7437).toInt < (ig17 7429).toInt) ∧ ((cHr t nn (ig17 7437) 0).toInt = (45 : Int32).toInt)) ∨ ((vg21.toInt = 0) ∧ ((ig21 7437).toInt = (ig17 7437).toInt))) ∧ (((vg21.toInt = 0) → ((cHr t nn (ig17 7437) 0).toInt ≠ (45 : Int32).toInt))) := hg21
          have q23 : ((ig21 7437).toInt = (ig17 7437).toInt → (cHr t nn (ig21 7437) 0).toInt = (cHr t nn (ig17 7437) 0).toInt) := fun h => congrArg Int32.toInt (kHr_c (t := t) (n := nn) (kj_v h) rfl)
          refine ft_if mi_k152 (vg21 == 0) 183 158 [(1, .int vg9), (0, .ref 116)] [] (by rfl) (fun c => ?_) (fun c => ?_)
          ·
            have c24 : vg21.toInt = (0 : Int32).toInt := kd_eq c; clear c
            refine ft_go mi_k152 2 186 [(1, .int vg9), (0, .ref 116)] [.int 40, .ref 116] ig21 ag21 qg21 rg21 (by rfl) ?_
            refine ko_callI mi_k152.1 (pc := 186) (ls := [(1, .int vg9), (0, .ref 116)]) (st := [.int 40, .ref 116]) (h := ks ig21 ag21 qg21 rg21) (i := (.invokevirtual 187, 3, 148, 0, 9, 0, 407)) (mi_k152.2 _ _ (by rfl)) (ft_invS mi_pq148 (by rfl)) (cy := mi_c148) mi_pq148 rfl (ke148_116 hGg21.I hGg21.R 40 (oq125 koq40) t nn (((kg21.fa 119 rfl).trans (kg17.fa 119 rfl)).trans hT) (((kg21.fi 7429 rfl).trans (kg17.fi 7429 rfl)).trans hN) hX) (kj_d3 (n := n) (c := 3) (o1 := 10) (by decide)) ?_
            intro vg25 ig25 ag25 qg25 rg25 kg25 hg25
            have hGg25 := kG_call hGg21 kg25 (by decide +kernel)
            obtain ⟨hg25, og25⟩ := hg25
            have efig21_7429 : (ig21 7429).toInt = (ig17 7429).toInt := kg21.ti 7429 rfl
            have z26 : (((vg25.toInt = 1) ∧ ((ig25 7437).toInt = ((ig21 7437).toInt + 1)) ∧ ((ig21 7437).toInt < (ig21 7429).toInt) ∧ ((cHr t nn (ig21 7437) 0).toInt = (40 : Int32).toInt)) ∨ ((vg25.toInt = 0) ∧ ((ig25 7437).toInt = (ig21 7437).toInt))) ∧ (((vg25.toInt = 0) → ((cHr t nn (ig21 7437) 0).toInt ≠ (40 : Int32).toInt))) := hg25
            have q27 : ((ig25 7437).toInt = (ig21 7437).toInt → (cHr t nn (ig25 7437) 0).toInt = (cHr t nn (ig21 7437) 0).toInt) := fun h => congrArg Int32.toInt (kHr_c (t := t) (n := nn) (kj_v h) rfl)
            refine ft_if mi_k152 (vg25 == 0) 212 192 [(1, .int vg9), (0, .ref 116)] [] (by rfl) (fun c => ?_) (fun c => ?_)
            ·
              have c28 : vg25.toInt = (0 : Int32).toInt := kd_eq c; clear c
              have efig17_7438 : (ig17 7438).toInt = ((i 7438) + 1).toInt := kg17.ti 7438 rfl
              have efig21_7438 : (ig21 7438).toInt = (ig17 7438).toInt := kg21.ti 7438 rfl
              have efig25_7438 : (ig25 7438).toInt = (ig21 7438).toInt := kg25.ti 7438 rfl
              have s29 : ((ig25 7438) - 1).toInt = (ig25 7438).toInt - (1 : Int32).toInt := kd_sub (oq126 b14.1 efig17_7438 efig21_7438 efig25_7438 s15 koq1) (oq127 efig17_7438 efig21_7438 efig25_7438 hn0 hp0 s15 koq1)
              have hJ30 := kG_i hGg25 7438 rfl (v := ((ig25 7438) - 1)) (kd_bd _)
              refine ft_go mi_k152 9 225 [(2, .int 0), (1, .int vg9), (0, .ref 116)] [.int 0] (ku ig25 7438 ((ig25 7438) - 1)) ag25 qg25 rg25 (by rfl) ?_
              have efig25_7429 : (ig25 7429).toInt = (ig21 7429).toInt := kg25.ti 7429 rfl
              have efig17_7439 : (ig17 7439).toInt = (i 7439).toInt := kg17.ti 7439 rfl
              have efig21_7439 : (ig21 7439).toInt = (ig17 7439).toInt := kg21.ti 7439 rfl
              have efig25_7439 : (ig25 7439).toInt = (ig21 7439).toInt := kg25.ti 7439 rfl
              obtain ⟨m, hm, hmI⟩ := kj_pred (oq131 c13 hn0 hp0 koq6)
              have tg31 : vg9 = nmO (rHr t nn (i 7437, i 7439, a 127)) := (og9.trans (congrArg nmO og5))
              have td32 : ¬ (48 ≤ (rHr t nn (i 7437, i 7439, a 127)).toInt ∧ (rHr t nn (i 7437, i 7439, a 127)).toInt ≤ 57) := (oq129 c4 z3.2 koq0)
              have tp33 : ((0 : Int32), (ig25 7437, ig25 7439, ag25 127)) = rPart t nn (some (rO t nn m)) (i 7437, i 7439, a 127) := rPt_bad (sub := rO t nn m) td32 tg31 (oq130 c12 koq0) (oq132 c20 z18.2 koq0 koq33) (oq133 c20 c24 q19 z18.1 z22.2 koq0 koq33 koq45) (oq134 c20 c24 c28 q19 q23 z18.1 z22.1 z26.2 koq0 koq33 koq45 koq40) (kT3 (kj_v (oq135 c20 c24 c28 z18.1 z22.1 z26.1 koq0 koq33 koq45 koq40)) ((kg25.fi 7439 rfl).trans ((kg21.fi 7439 rfl).trans (kg17.fi 7439 rfl))) (((kg25.fa 127 rfl).trans (kg21.fa 127 rfl)).trans (kg17.fa 127 rfl))) rfl
              exact ft_ret mi_k152 (by rfl) (hP 0 _ _ _ _ hJ30 ⟨(oq128 c20 c24 c28 efig17_7429 efig17_7438 efig17_7439 efig21_7429 efig21_7438 efig21_7439 efig25_7429 efig25_7438 efig25_7439 hp2 s15 s29 z18.1 z22.1 z26.1 koq0 koq1 koq33 koq45 koq40), (tp33.trans (congrFun (rO_s hm).symm _))⟩)
            ·
              have c34 : vg25.toInt ≠ (0 : Int32).toInt := kd_eqF c; clear c
              refine ft_go mi_k152 1 193 [(1, .int vg9), (0, .ref 116)] [.ref 116] ig25 ag25 qg25 rg25 (by rfl) ?_
              obtain ⟨m, hm, hmI⟩ := kj_pred (oq131 c13 hn0 hp0 koq6)
              have efig17_7438 : (ig17 7438).toInt = ((i 7438) + 1).toInt := kg17.ti 7438 rfl
              have efig21_7438 : (ig21 7438).toInt = (ig17 7438).toInt := kg21.ti 7438 rfl
              have efig25_7438 : (ig25 7438).toInt = (ig21 7438).toInt := kg25.ti 7438 rfl
              have efig17_7439 : (ig17 7439).toInt = (i 7439).toInt := kg17.ti 7439 rfl
              have efig21_7439 : (ig21 7439).toInt = (ig17 7439).toInt := kg21.ti 7439 rfl
              have efig25_7439 : (ig25 7439).toInt = (ig21 7439).toInt := kg25.ti 7439 rfl
              have efig25_7429 : (ig25 7429).toInt = (ig21 7429).toInt := kg25.ti 7429 rfl
              refine ko_callI mi_k152.1 (pc := 193) (ls := [(1, .int vg9), (0, .ref 116)]) (st := [.ref 116]) (h := ks ig25 ag25 qg25 rg25) (i := (.invokevirtual 193, 3, 157, 0, 9, 0, 397)) (mi_k152.2 _ _ (by rfl)) (ft_invS mi_pq157 (by rfl)) (cy := mi_c157) mi_pq157 rfl ((ih m hm).1 _ _ _ _ hGg25.I hGg25.R (oq136 efig17_7438 efig21_7438 efig25_7438 hmI hp0 s15 koq1) (oq137 c20 c24 efig17_7439 efig21_7439 efig25_7439 hp1 z18.1 z22.1 z26.1 koq0 koq33 koq45 koq40) (oq138 c34 efig25_7429 z26.1 koq0 koq40) t nn ((((kg25.fa 119 rfl).trans (kg21.fa 119 rfl)).trans (kg17.fa 119 rfl)).trans hT) (((kg25.fi 7429 rfl).trans ((kg21.fi 7429 rfl).trans (kg17.fi 7429 rfl))).trans hN) hX) (kj_d2 (n := n) (m := m) (o := 15) (o1 := 10) hm (by decide)) ?_
              intro vg35 ig35 ag35 qg35 rg35 kg35 hg35
              have hGg35 := kG_call hGg25 kg35 (by decide +kernel)
              obtain ⟨hg35, og35⟩ := hg35
              have z36 : ((ig35 7438).toInt = (ig25 7438).toInt) ∧ ((ig25 7437).toInt ≤ (ig35 7437).toInt) ∧ ((ig35 7437).toInt ≤ (ig35 7429).toInt) ∧ (((ig35 7439).toInt - (ig35 7437).toInt) ≤ ((ig25 7439).toInt - (ig25 7437).toInt)) ∧ ((ig25 7439).toInt ≤ (ig35 7439).toInt) ∧ ((0 : Int) ≤ vg35.toInt) ∧ (vg35.toInt ≤ 1) ∧ (((vg35.toInt = 1) → (((ig25 7437).toInt + 1) ≤ (ig35 7437).toInt))) := hg35
              refine ft_if mi_k152 (vg35 == 0) 212 199 [(1, .int vg9), (0, .ref 116)] [] (by rfl) (fun c => ?_) (fun c => ?_)
              ·
                have c37 : vg35.toInt = (0 : Int32).toInt := kd_eq c; clear c
                have s38 : ((ig35 7438) - 1).toInt = (ig35 7438).toInt - (1 : Int32).toInt := kd_sub (oq139 b14.1 efig17_7438 efig21_7438 efig25_7438 s15 z36.1 koq1) (oq140 efig17_7438 efig21_7438 efig25_7438 hn0 hp0 s15 z36.1 koq1)
                have hJ39 := kG_i hGg35 7438 rfl (v := ((ig35 7438) - 1)) (kd_bd _)
                refine ft_go mi_k152 9 225 [(2, .int 0), (1, .int vg9), (0, .ref 116)] [.int 0] (ku ig35 7438 ((ig35 7438) - 1)) ag35 qg35 rg35 (by rfl) ?_
                have tg40 : vg9 = nmO (rHr t nn (i 7437, i 7439, a 127)) := (og9.trans (congrArg nmO og5))
                have td41 : ¬ (48 ≤ (rHr t nn (i 7437, i 7439, a 127)).toInt ∧ (rHr t nn (i 7437, i 7439, a 127)).toInt ≤ 57) := (oq142 c20 c24 c34 c4 q19 q23 z18.1 z22.1 z26.1 z3.2 koq0 koq33 koq45 koq40)
                have tk42 : (vg17, (ig17 7437, ig17 7439, ag17 127)) = rTk t nn 33 (i 7437, i 7439, a 127) := (tTkR og17 (kT2 (kg17.fi 7439 rfl) (kg17.fa 127 rfl)))
                have tk43 : (vg21, (ig21 7437, ig21 7439, ag21 127)) = rTk t nn 45 (ig17 7437, ig17 7439, ag17 127) := (tTkR og21 (kT2 (kg21.fi 7439 rfl) (kg21.fa 127 rfl)))
                have tk44 : (vg25, (ig25 7437, ig25 7439, ag25 127)) = rTk t nn 40 (ig21 7437, ig21 7439, ag21 127) := (tTkR og25 (kT2 (kg25.fi 7439 rfl) (kg25.fa 127 rfl)))
                have ta45 : (ig25 7437, ig25 7439, ag25 127) = rAt1 (i 7437, i 7439, a 127) := ((rTk_yes tk44 (oq146 c34 z26.1 koq0 koq40)).trans (congrArg rAt1 ((rTk_no tk43 (oq145 c24 koq0)).trans (rTk_no tk42 (oq145 c20 koq0)))))
                have tp46 : ((0 : Int32), (ig35 7437, ig35 7439, ag35 127)) = rPart t nn (some (rO t nn m)) (i 7437, i 7439, a 127) := rPt_par (sub := rO t nn m) td41 tg40 (oq130 c12 koq0) (oq144 c20 c24 c34 q19 q23 z18.1 z22.1 z26.1 koq0 koq33 koq45 koq40) (og35.trans (congrArg (rE t nn m) ta45)) (rPa_no (oq143 c37 z36.2.2.2.2.2.1 koq0) rfl)
                exact ft_ret mi_k152 (by rfl) (hP 0 _ _ _ _ hJ39 ⟨(oq224 c20 c24 efig17_7438 efig17_7439 efig21_7438 efig21_7439 efig25_7438 efig25_7439 s15 s38 z18.1 z22.1 z26.1 z36.1 z36.2.1 z36.2.2.1 z36.2.2.2.1 z36.2.2.2.2.1 koq0 koq1 koq33 koq45 koq40), (tp46.trans (congrFun (rO_s hm).symm _))⟩)
              ·
                have c47 : vg35.toInt ≠ (0 : Int32).toInt := kd_eqF c; clear c
                refine ft_go mi_k152 2 202 [(1, .int vg9), (0, .ref 116)] [.int 41, .ref 116] ig35 ag35 qg35 rg35 (by rfl) ?_
                refine ko_callI mi_k152.1 (pc := 202) (ls := [(1, .int vg9), (0, .ref 116)]) (st := [.int 41, .ref 116]) (h := ks ig35 ag35 qg35 rg35) (i := (.invokevirtual 187, 3, 148, 0, 9, 0, 407)) (mi_k152.2 _ _ (by rfl)) (ft_invS mi_pq148 (by rfl)) (cy := mi_c148) mi_pq148 rfl (ke148_116 hGg35.I hGg35.R 41 (oq147 koq41) t nn (((((kg35.fa 119 rfl).trans (kg25.fa 119 rfl)).trans (kg21.fa 119 rfl)).trans (kg17.fa 119 rfl)).trans hT) (((kg35.fi 7429 rfl).trans ((kg25.fi 7429 rfl).trans ((kg21.fi 7429 rfl).trans (kg17.fi 7429 rfl)))).trans hN) hX) (kj_d3 (n := n) (c := 3) (o1 := 10) (by decide)) ?_
                intro vg48 ig48 ag48 qg48 rg48 kg48 hg48
                have hGg48 := kG_call hGg35 kg48 (by decide +kernel)
                obtain ⟨hg48, og48⟩ := hg48
                have z49 : (((vg48.toInt = 1) ∧ ((ig48 7437).toInt = ((ig35 7437).toInt + 1)) ∧ ((ig35 7437).toInt < (ig35 7429).toInt) ∧ ((cHr t nn (ig35 7437) 0).toInt = (41 : Int32).toInt)) ∨ ((vg48.toInt = 0) ∧ ((ig48 7437).toInt = (ig35 7437).toInt))) ∧ (((vg48.toInt = 0) → ((cHr t nn (ig35 7437) 0).toInt ≠ (41 : Int32).toInt))) := hg48
                have q50 : ((ig48 7437).toInt = (ig35 7437).toInt → (cHr t nn (ig48 7437) 0).toInt = (cHr t nn (ig35 7437) 0).toInt) := fun h => congrArg Int32.toInt (kHr_c (t := t) (n := nn) (kj_v h) rfl)
                refine ft_if mi_k152 (vg48 == 0) 212 208 [(1, .int vg9), (0, .ref 116)] [] (by rfl) (fun c => ?_) (fun c => ?_)
                ·
                  have c51 : vg48.toInt = (0 : Int32).toInt := kd_eq c; clear c
                  have efig48_7438 : (ig48 7438).toInt = (ig35 7438).toInt := kg48.ti 7438 rfl
                  have s52 : ((ig48 7438) - 1).toInt = (ig48 7438).toInt - (1 : Int32).toInt := kd_sub (oq148 b14.1 efig17_7438 efig21_7438 efig25_7438 efig48_7438 s15 z36.1 koq1) (oq149 efig17_7438 efig21_7438 efig25_7438 efig48_7438 hn0 hp0 s15 z36.1 koq1)
                  have hJ53 := kG_i hGg48 7438 rfl (v := ((ig48 7438) - 1)) (kd_bd _)
                  refine ft_go mi_k152 9 225 [(2, .int 0), (1, .int vg9), (0, .ref 116)] [.int 0] (ku ig48 7438 ((ig48 7438) - 1)) ag48 qg48 rg48 (by rfl) ?_
                  have efig48_7429 : (ig48 7429).toInt = (ig35 7429).toInt := kg48.ti 7429 rfl
                  have efig48_7439 : (ig48 7439).toInt = (ig35 7439).toInt := kg48.ti 7439 rfl
                  have tg54 : vg9 = nmO (rHr t nn (i 7437, i 7439, a 127)) := (og9.trans (congrArg nmO og5))
                  have td55 : ¬ (48 ≤ (rHr t nn (i 7437, i 7439, a 127)).toInt ∧ (rHr t nn (i 7437, i 7439, a 127)).toInt ≤ 57) := (oq142 c20 c24 c34 c4 q19 q23 z18.1 z22.1 z26.1 z3.2 koq0 koq33 koq45 koq40)
                  have tk56 : (vg17, (ig17 7437, ig17 7439, ag17 127)) = rTk t nn 33 (i 7437, i 7439, a 127) := (tTkR og17 (kT2 (kg17.fi 7439 rfl) (kg17.fa 127 rfl)))
                  have tk57 : (vg21, (ig21 7437, ig21 7439, ag21 127)) = rTk t nn 45 (ig17 7437, ig17 7439, ag17 127) := (tTkR og21 (kT2 (kg21.fi 7439 rfl) (kg21.fa 127 rfl)))
                  have tk58 : (vg25, (ig25 7437, ig25 7439, ag25 127)) = rTk t nn 40 (ig21 7437, ig21 7439, ag21 127) := (tTkR og25 (kT2 (kg25.fi 7439 rfl) (kg25.fa 127 rfl)))
                  have ta59 : (ig25 7437, ig25 7439, ag25 127) = rAt1 (i 7437, i 7439, a 127) := ((rTk_yes tk58 (oq146 c34 z26.1 koq0 koq40)).trans (congrArg rAt1 ((rTk_no tk57 (oq145 c24 koq0)).trans (rTk_no tk56 (oq145 c20 koq0)))))
                  have tp60 : ((0 : Int32), (ig48 7437, ig48 7439, ag48 127)) = rPart t nn (some (rO t nn m)) (i 7437, i 7439, a 127) := rPt_par (sub := rO t nn m) td55 tg54 (oq130 c12 koq0) (oq144 c20 c24 c34 q19 q23 z18.1 z22.1 z26.1 koq0 koq33 koq45 koq40) (og35.trans (congrArg (rE t nn m) ta59)) (rPa_yes (oq151 c47 z36.2.2.2.2.2.1 koq0) (tTkR og48 (kT2 (kg48.fi 7439 rfl) (kg48.fa 127 rfl))) (kj_v (oq152 c51 koq0)))
                  exact ft_ret mi_k152 (by rfl) (hP 0 _ _ _ _ hJ53 ⟨(oq225 c20 c24 c51 efig17_7438 efig17_7439 efig21_7438 efig21_7439 efig25_7438 efig25_7439 efig48_7429 efig48_7438 efig48_7439 s15 s52 z18.1 z22.1 z26.1 z36.1 z36.2.1 z36.2.2.1 z36.2.2.2.1 z36.2.2.2.2.1 z49.1 koq0 koq1 koq33 koq45 koq40 koq41), (tp60.trans (congrFun (rO_s hm).symm _))⟩)
                ·
                  have c61 : vg48.toInt ≠ (0 : Int32).toInt := kd_eqF c; clear c
                  have efig48_7438 : (ig48 7438).toInt = (ig35 7438).toInt := kg48.ti 7438 rfl
                  have s62 : ((ig48 7438) - 1).toInt = (ig48 7438).toInt - (1 : Int32).toInt := kd_sub (oq148 b14.1 efig17_7438 efig21_7438 efig25_7438 efig48_7438 s15 z36.1 koq1) (oq149 efig17_7438 efig21_7438 efig25_7438 efig48_7438 hn0 hp0 s15 z36.1 koq1)
                  have hJ63 := kG_i hGg48 7438 rfl (v := ((ig48 7438) - 1)) (kd_bd _)
                  refine ft_go mi_k152 10 225 [(2, .int 1), (1, .int vg9), (0, .ref 116)] [.int 1] (ku ig48 7438 ((ig48 7438) - 1)) ag48 qg48 rg48 (by rfl) ?_
                  have efig48_7429 : (ig48 7429).toInt = (ig35 7429).toInt := kg48.ti 7429 rfl
                  have efig48_7439 : (ig48 7439).toInt = (ig35 7439).toInt := kg48.ti 7439 rfl
                  have tg64 : vg9 = nmO (rHr t nn (i 7437, i 7439, a 127)) := (og9.trans (congrArg nmO og5))
                  have td65 : ¬ (48 ≤ (rHr t nn (i 7437, i 7439, a 127)).toInt ∧ (rHr t nn (i 7437, i 7439, a 127)).toInt ≤ 57) := (oq142 c20 c24 c34 c4 q19 q23 z18.1 z22.1 z26.1 z3.2 koq0 koq33 koq45 koq40)
                  have tk66 : (vg17, (ig17 7437, ig17 7439, ag17 127)) = rTk t nn 33 (i 7437, i 7439, a 127) := (tTkR og17 (kT2 (kg17.fi 7439 rfl) (kg17.fa 127 rfl)))
                  have tk67 : (vg21, (ig21 7437, ig21 7439, ag21 127)) = rTk t nn 45 (ig17 7437, ig17 7439, ag17 127) := (tTkR og21 (kT2 (kg21.fi 7439 rfl) (kg21.fa 127 rfl)))
                  have tk68 : (vg25, (ig25 7437, ig25 7439, ag25 127)) = rTk t nn 40 (ig21 7437, ig21 7439, ag21 127) := (tTkR og25 (kT2 (kg25.fi 7439 rfl) (kg25.fa 127 rfl)))
                  have ta69 : (ig25 7437, ig25 7439, ag25 127) = rAt1 (i 7437, i 7439, a 127) := ((rTk_yes tk68 (oq146 c34 z26.1 koq0 koq40)).trans (congrArg rAt1 ((rTk_no tk67 (oq145 c24 koq0)).trans (rTk_no tk66 (oq145 c20 koq0)))))
                  have tp70 : ((1 : Int32), (ig48 7437, ig48 7439, ag48 127)) = rPart t nn (some (rO t nn m)) (i 7437, i 7439, a 127) := rPt_par (sub := rO t nn m) td65 tg64 (oq130 c12 koq0) (oq144 c20 c24 c34 q19 q23 z18.1 z22.1 z26.1 koq0 koq33 koq45 koq40) (og35.trans (congrArg (rE t nn m) ta69)) (rPa_yes (oq151 c47 z36.2.2.2.2.2.1 koq0) (tTkR og48 (kT2 (kg48.fi 7439 rfl) (kg48.fa 127 rfl))) (kj_v (oq154 c61 z49.1 koq0 koq41 koq1)))
                  exact ft_ret mi_k152 (by rfl) (hP 1 _ _ _ _ hJ63 ⟨(oq226 c20 c24 c34 c4 c47 efig17_7438 efig17_7439 efig21_7438 efig21_7439 efig25_7438 efig25_7439 efig48_7429 efig48_7438 efig48_7439 q19 q23 s15 s62 z18.1 z22.1 z26.1 z3.2 z36.1 z36.2.2.1 z36.2.2.2.1 z36.2.2.2.2.1 z36.2.2.2.2.2.1 z36.2.2.2.2.2.2.1 z36.2.2.2.2.2.2.2 z49.1 koq0 koq1 koq33 koq45 koq40 koq41), (tp70.trans (congrFun (rO_s hm).symm _))⟩)
          ·
            have c71 : vg21.toInt ≠ (0 : Int32).toInt := kd_eqF c; clear c
            refine ft_go mi_k152 1 159 [(1, .int vg9), (0, .ref 116)] [.ref 116] ig21 ag21 qg21 rg21 (by rfl) ?_
            obtain ⟨m, hm, hmI⟩ := kj_pred (oq131 c13 hn0 hp0 koq6)
            have efig17_7438 : (ig17 7438).toInt = ((i 7438) + 1).toInt := kg17.ti 7438 rfl
            have efig21_7438 : (ig21 7438).toInt = (ig17 7438).toInt := kg21.ti 7438 rfl
            have efig17_7439 : (ig17 7439).toInt = (i 7439).toInt := kg17.ti 7439 rfl
            have efig21_7439 : (ig21 7439).toInt = (ig17 7439).toInt := kg21.ti 7439 rfl
            have efig21_7429 : (ig21 7429).toInt = (ig17 7429).toInt := kg21.ti 7429 rfl
            refine ko_callI mi_k152.1 (pc := 159) (ls := [(1, .int vg9), (0, .ref 116)]) (st := [.ref 116]) (h := ks ig21 ag21 qg21 rg21) (i := (.invokevirtual 190, 3, 152, 0, 9, 0, 402)) (mi_k152.2 _ _ (by rfl)) (ft_invS mi_pq152 (by rfl)) (cy := mi_c152) mi_pq152 rfl ((ih m hm).2 _ _ _ _ hGg21.I hGg21.R (oq155 efig17_7438 efig21_7438 hmI hp0 s15 koq1) (oq156 c20 efig17_7439 efig21_7439 hp1 z18.1 z22.1 koq0 koq33 koq45) (oq157 c71 efig21_7429 z22.1 koq0 koq45) t nn (((kg21.fa 119 rfl).trans (kg17.fa 119 rfl)).trans hT) (((kg21.fi 7429 rfl).trans (kg17.fi 7429 rfl)).trans hN) hX) (kj_d2 (n := n) (m := m) (o := 10) (o1 := 10) hm (by decide)) ?_
            intro vg72 ig72 ag72 qg72 rg72 kg72 hg72
            have hGg72 := kG_call hGg21 kg72 (by decide +kernel)
            obtain ⟨hg72, og72⟩ := hg72
            have fig72_7437 : ((0 : Int) ≤ (ig72 7437).toInt) ∧ ((ig72 7437).toInt ≤ 120) := hGg72.I.1 7437
            have fig72_7439 : ((0 : Int) ≤ (ig72 7439).toInt) ∧ ((ig72 7439).toInt ≤ 200) := hGg72.I.1 7439
            have z73 : ((ig72 7438).toInt = (ig21 7438).toInt) ∧ ((ig21 7437).toInt ≤ (ig72 7437).toInt) ∧ ((ig72 7437).toInt ≤ (ig72 7429).toInt) ∧ (((ig72 7439).toInt - (ig72 7437).toInt) ≤ ((ig21 7439).toInt - (ig21 7437).toInt)) ∧ ((ig21 7439).toInt ≤ (ig72 7439).toInt) ∧ ((0 : Int) ≤ vg72.toInt) ∧ (vg72.toInt ≤ 1) ∧ (((vg72.toInt = 1) → (((ig21 7437).toInt + 1) ≤ (ig72 7437).toInt))) := hg72
            refine ft_if mi_k152 (vg72 == 0) 178 165 [(1, .int vg9), (0, .ref 116)] [] (by rfl) (fun c => ?_) (fun c => ?_)
            ·
              have c74 : vg72.toInt = (0 : Int32).toInt := kd_eq c; clear c
              have s75 : ((ig72 7438) - 1).toInt = (ig72 7438).toInt - (1 : Int32).toInt := kd_sub (oq158 b14.1 efig17_7438 efig21_7438 s15 z73.1 koq1) (oq159 efig17_7438 efig21_7438 hn0 hp0 s15 z73.1 koq1)
              have hJ76 := kG_i hGg72 7438 rfl (v := ((ig72 7438) - 1)) (kd_bd _)
              refine ft_go mi_k152 10 225 [(2, .int 0), (1, .int vg9), (0, .ref 116)] [.int 0] (ku ig72 7438 ((ig72 7438) - 1)) ag72 qg72 rg72 (by rfl) ?_
              have tg77 : vg9 = nmO (rHr t nn (i 7437, i 7439, a 127)) := (og9.trans (congrArg nmO og5))
              have td78 : ¬ (48 ≤ (rHr t nn (i 7437, i 7439, a 127)).toInt ∧ (rHr t nn (i 7437, i 7439, a 127)).toInt ≤ 57) := (oq161 c20 c4 c71 q19 z18.1 z22.1 z3.2 koq0 koq33 koq45)
              have tk79 : (vg17, (ig17 7437, ig17 7439, ag17 127)) = rTk t nn 33 (i 7437, i 7439, a 127) := (tTkR og17 (kT2 (kg17.fi 7439 rfl) (kg17.fa 127 rfl)))
              have tk80 : (vg21, (ig21 7437, ig21 7439, ag21 127)) = rTk t nn 45 (ig17 7437, ig17 7439, ag17 127) := (tTkR og21 (kT2 (kg21.fi 7439 rfl) (kg21.fa 127 rfl)))
              have ta81 : (ig21 7437, ig21 7439, ag21 127) = rAt1 (i 7437, i 7439, a 127) := ((rTk_yes tk80 (oq163 c71 z22.1 koq0 koq45)).trans (congrArg rAt1 (rTk_no tk79 (oq145 c20 koq0))))
              have tp82 : ((0 : Int32), (ig72 7437, ig72 7439, ag72 127)) = rPart t nn (some (rO t nn m)) (i 7437, i 7439, a 127) := rPt_neg (sub := rO t nn m) td78 tg77 (oq130 c12 koq0) (oq162 c20 c71 q19 z18.1 z22.1 koq0 koq33 koq45) (og72.trans (congrArg (rO t nn m) ta81)) (rC2_no (oq143 c74 z73.2.2.2.2.2.1 koq0) rfl)
              exact ft_ret mi_k152 (by rfl) (hP 0 _ _ _ _ hJ76 ⟨(oq227 c20 efig17_7438 efig17_7439 efig21_7438 efig21_7439 s15 s75 z18.1 z22.1 z73.1 z73.2.1 z73.2.2.1 z73.2.2.2.1 z73.2.2.2.2.1 koq0 koq1 koq33 koq45), (tp82.trans (congrFun (rO_s hm).symm _))⟩)
            ·
              have c83 : vg72.toInt ≠ (0 : Int32).toInt := kd_eqF c; clear c
              refine ft_go mi_k152 2 168 [(1, .int vg9), (0, .ref 116)] [.int 17, .ref 116] ig72 ag72 qg72 rg72 (by rfl) ?_
              refine ko_callI mi_k152.1 (pc := 168) (ls := [(1, .int vg9), (0, .ref 116)]) (st := [.int 17, .ref 116]) (h := ks ig72 ag72 qg72 rg72) (i := (.invokevirtual 177, 3, 149, 0, 9, 0, 405)) (mi_k152.2 _ _ (by rfl)) (ft_invS mi_pq149 (by rfl)) (cy := mi_c149) mi_pq149 rfl (kf149_116 hGg72.I hGg72.R 17 (oq228 c20 efig17_7439 efig21_7439 fig72_7437.2 fig72_7439.1 hp1 z18.1 z22.1 z73.2.2.2.1 koq0 koq33 koq45)) (kj_d3 (n := n) (c := 1) (o1 := 10) (by decide)) ?_
              intro vg84 ig84 ag84 qg84 rg84 kg84 hg84
              have hGg84 := kG_call hGg72 kg84 (by decide +kernel)
              obtain ⟨hg84, og84⟩ := hg84
              have z85 : (vg84.toInt = 1) ∧ ((ig84 7439).toInt = ((ig72 7439).toInt + 1)) := hg84
              have q86 : ag84 127 = (ag72 127).set (ig72 7439).toNatClampNeg (17 : Int32) := og84.1
              have q87 : ig84 7439 = ig72 7439 + 1 := og84.2
              refine ft_if mi_k152 (vg84 == 0) 178 174 [(1, .int vg9), (0, .ref 116)] [] (by rfl) (fun c => ?_) (fun c => ?_)
              ·
                have c88 : vg84.toInt = (0 : Int32).toInt := kd_eq c; clear c
                exact (oq169 c88 z85.1 koq0).elim
              ·
                have c89 : vg84.toInt ≠ (0 : Int32).toInt := kd_eqF c; clear c
                have efig84_7438 : (ig84 7438).toInt = (ig72 7438).toInt := kg84.ti 7438 rfl
                have s90 : ((ig84 7438) - 1).toInt = (ig84 7438).toInt - (1 : Int32).toInt := kd_sub (oq170 b14.1 efig17_7438 efig21_7438 efig84_7438 s15 z73.1 koq1) (oq171 efig17_7438 efig21_7438 efig84_7438 hn0 hp0 s15 z73.1 koq1)
                have hJ91 := kG_i hGg84 7438 rfl (v := ((ig84 7438) - 1)) (kd_bd _)
                refine ft_go mi_k152 11 225 [(2, .int 1), (1, .int vg9), (0, .ref 116)] [.int 1] (ku ig84 7438 ((ig84 7438) - 1)) ag84 qg84 rg84 (by rfl) ?_
                have efig84_7437 : (ig84 7437).toInt = (ig72 7437).toInt := kg84.ti 7437 rfl
                have efig84_7429 : (ig84 7429).toInt = (ig72 7429).toInt := kg84.ti 7429 rfl
                have tg92 : vg9 = nmO (rHr t nn (i 7437, i 7439, a 127)) := (og9.trans (congrArg nmO og5))
                have td93 : ¬ (48 ≤ (rHr t nn (i 7437, i 7439, a 127)).toInt ∧ (rHr t nn (i 7437, i 7439, a 127)).toInt ≤ 57) := (oq161 c20 c4 c71 q19 z18.1 z22.1 z3.2 koq0 koq33 koq45)
                have tk94 : (vg17, (ig17 7437, ig17 7439, ag17 127)) = rTk t nn 33 (i 7437, i 7439, a 127) := (tTkR og17 (kT2 (kg17.fi 7439 rfl) (kg17.fa 127 rfl)))
                have tk95 : (vg21, (ig21 7437, ig21 7439, ag21 127)) = rTk t nn 45 (ig17 7437, ig17 7439, ag17 127) := (tTkR og21 (kT2 (kg21.fi 7439 rfl) (kg21.fa 127 rfl)))
                have ta96 : (ig21 7437, ig21 7439, ag21 127) = rAt1 (i 7437, i 7439, a 127) := ((rTk_yes tk95 (oq163 c71 z22.1 koq0 koq45)).trans (congrArg rAt1 (rTk_no tk94 (oq145 c20 koq0))))
                have tp97 : ((1 : Int32), (ig84 7437, ig84 7439, ag84 127)) = rPart t nn (some (rO t nn m)) (i 7437, i 7439, a 127) := rPt_neg (sub := rO t nn m) td93 tg92 (oq130 c12 koq0) (oq162 c20 c71 q19 z18.1 z22.1 koq0 koq33 koq45) (og72.trans (congrArg (rO t nn m) ta96)) (rC2_yes (oq151 c83 z73.2.2.2.2.2.1 koq0) (tCod og84.1 og84.2 (kg84.fi 7437 rfl)) rfl)
                exact ft_ret mi_k152 (by rfl) (hP 1 _ _ _ _ hJ91 ⟨(oq229 c20 c71 efig17_7438 efig17_7439 efig21_7438 efig21_7439 efig84_7429 efig84_7437 efig84_7438 s15 s90 z18.1 z22.1 z73.1 z73.2.1 z73.2.2.1 z73.2.2.2.1 z73.2.2.2.2.1 z85.2 koq0 koq1 koq33 koq45), (tp97.trans (congrFun (rO_s hm).symm _))⟩)
        ·
          have c98 : vg17.toInt ≠ (0 : Int32).toInt := kd_eqF c; clear c
          refine ft_go mi_k152 1 125 [(1, .int vg9), (0, .ref 116)] [.ref 116] ig17 ag17 qg17 rg17 (by rfl) ?_
          obtain ⟨m, hm, hmI⟩ := kj_pred (oq131 c13 hn0 hp0 koq6)
          have efig17_7438 : (ig17 7438).toInt = ((i 7438) + 1).toInt := kg17.ti 7438 rfl
          have efig17_7439 : (ig17 7439).toInt = (i 7439).toInt := kg17.ti 7439 rfl
          have efig17_7429 : (ig17 7429).toInt = (i 7429).toInt := kg17.ti 7429 rfl
          refine ko_callI mi_k152.1 (pc := 125) (ls := [(1, .int vg9), (0, .ref 116)]) (st := [.ref 116]) (h := ks ig17 ag17 qg17 rg17) (i := (.invokevirtual 190, 3, 152, 0, 9, 0, 402)) (mi_k152.2 _ _ (by rfl)) (ft_invS mi_pq152 (by rfl)) (cy := mi_c152) mi_pq152 rfl ((ih m hm).2 _ _ _ _ hGg17.I hGg17.R (oq173 efig17_7438 hmI hp0 s15 koq1) (oq174 efig17_7439 hp1 z18.1 koq33) (oq175 efig17_7429 hp2 z18.1 koq33) t nn ((kg17.fa 119 rfl).trans hT) ((kg17.fi 7429 rfl).trans hN) hX) (kj_d2 (n := n) (m := m) (o := 10) (o1 := 10) hm (by decide)) ?_
          intro vg99 ig99 ag99 qg99 rg99 kg99 hg99
          have hGg99 := kG_call hGg17 kg99 (by decide +kernel)
          obtain ⟨hg99, og99⟩ := hg99
          have fig99_7437 : ((0 : Int) ≤ (ig99 7437).toInt) ∧ ((ig99 7437).toInt ≤ 120) := hGg99.I.1 7437
          have fig99_7439 : ((0 : Int) ≤ (ig99 7439).toInt) ∧ ((ig99 7439).toInt ≤ 200) := hGg99.I.1 7439
          have z100 : ((ig99 7438).toInt = (ig17 7438).toInt) ∧ ((ig17 7437).toInt ≤ (ig99 7437).toInt) ∧ ((ig99 7437).toInt ≤ (ig99 7429).toInt) ∧ (((ig99 7439).toInt - (ig99 7437).toInt) ≤ ((ig17 7439).toInt - (ig17 7437).toInt)) ∧ ((ig17 7439).toInt ≤ (ig99 7439).toInt) ∧ ((0 : Int) ≤ vg99.toInt) ∧ (vg99.toInt ≤ 1) ∧ (((vg99.toInt = 1) → (((ig17 7437).toInt + 1) ≤ (ig99 7437).toInt))) := hg99
          refine ft_if mi_k152 (vg99 == 0) 144 131 [(1, .int vg9), (0, .ref 116)] [] (by rfl) (fun c => ?_) (fun c => ?_)
          ·
            have c101 : vg99.toInt = (0 : Int32).toInt := kd_eq c; clear c
            have s102 : ((ig99 7438) - 1).toInt = (ig99 7438).toInt - (1 : Int32).toInt := kd_sub (oq176 b14.1 efig17_7438 s15 z100.1 koq1) (oq177 efig17_7438 hn0 hp0 s15 z100.1 koq1)
            have hJ103 := kG_i hGg99 7438 rfl (v := ((ig99 7438) - 1)) (kd_bd _)
            refine ft_go mi_k152 10 225 [(2, .int 0), (1, .int vg9), (0, .ref 116)] [.int 0] (ku ig99 7438 ((ig99 7438) - 1)) ag99 qg99 rg99 (by rfl) ?_
            have tg104 : vg9 = nmO (rHr t nn (i 7437, i 7439, a 127)) := (og9.trans (congrArg nmO og5))
            have td105 : ¬ (48 ≤ (rHr t nn (i 7437, i 7439, a 127)).toInt ∧ (rHr t nn (i 7437, i 7439, a 127)).toInt ≤ 57) := (oq179 c4 c98 z18.1 z3.2 koq0 koq33)
            have tk106 : (vg17, (ig17 7437, ig17 7439, ag17 127)) = rTk t nn 33 (i 7437, i 7439, a 127) := (tTkR og17 (kT2 (kg17.fi 7439 rfl) (kg17.fa 127 rfl)))
            have ta107 : (ig17 7437, ig17 7439, ag17 127) = rAt1 (i 7437, i 7439, a 127) := (rTk_yes tk106 (oq181 c98 z18.1 koq0 koq33))
            have tp108 : ((0 : Int32), (ig99 7437, ig99 7439, ag99 127)) = rPart t nn (some (rO t nn m)) (i 7437, i 7439, a 127) := rPt_not (sub := rO t nn m) td105 tg104 (oq130 c12 koq0) (oq180 c98 z18.1 koq0 koq33) (og99.trans (congrArg (rO t nn m) ta107)) (rC2_no (oq143 c101 z100.2.2.2.2.2.1 koq0) rfl)
            exact ft_ret mi_k152 (by rfl) (hP 0 _ _ _ _ hJ103 ⟨(oq178 efig17_7438 efig17_7439 s102 s15 z100.1 z100.2.1 z100.2.2.1 z100.2.2.2.1 z100.2.2.2.2.1 z18.1 koq1 koq33 koq0), (tp108.trans (congrFun (rO_s hm).symm _))⟩)
          ·
            have c109 : vg99.toInt ≠ (0 : Int32).toInt := kd_eqF c; clear c
            refine ft_go mi_k152 2 134 [(1, .int vg9), (0, .ref 116)] [.int 16, .ref 116] ig99 ag99 qg99 rg99 (by rfl) ?_
            refine ko_callI mi_k152.1 (pc := 134) (ls := [(1, .int vg9), (0, .ref 116)]) (st := [.int 16, .ref 116]) (h := ks ig99 ag99 qg99 rg99) (i := (.invokevirtual 177, 3, 149, 0, 9, 0, 405)) (mi_k152.2 _ _ (by rfl)) (ft_invS mi_pq149 (by rfl)) (cy := mi_c149) mi_pq149 rfl (kf149_116 hGg99.I hGg99.R 16 (oq182 efig17_7439 fig99_7437.2 fig99_7439.1 hp1 z100.2.2.2.1 z18.1 koq33)) (kj_d3 (n := n) (c := 1) (o1 := 10) (by decide)) ?_
            intro vg110 ig110 ag110 qg110 rg110 kg110 hg110
            have hGg110 := kG_call hGg99 kg110 (by decide +kernel)
            obtain ⟨hg110, og110⟩ := hg110
            have z111 : (vg110.toInt = 1) ∧ ((ig110 7439).toInt = ((ig99 7439).toInt + 1)) := hg110
            have q112 : ag110 127 = (ag99 127).set (ig99 7439).toNatClampNeg (16 : Int32) := og110.1
            have q113 : ig110 7439 = ig99 7439 + 1 := og110.2
            refine ft_if mi_k152 (vg110 == 0) 144 140 [(1, .int vg9), (0, .ref 116)] [] (by rfl) (fun c => ?_) (fun c => ?_)
            ·
              have c114 : vg110.toInt = (0 : Int32).toInt := kd_eq c; clear c
              exact (oq169 c114 z111.1 koq0).elim
            ·
              have c115 : vg110.toInt ≠ (0 : Int32).toInt := kd_eqF c; clear c
              have efig110_7438 : (ig110 7438).toInt = (ig99 7438).toInt := kg110.ti 7438 rfl
              have s116 : ((ig110 7438) - 1).toInt = (ig110 7438).toInt - (1 : Int32).toInt := kd_sub (oq183 b14.1 efig110_7438 efig17_7438 s15 z100.1 koq1) (oq184 efig110_7438 efig17_7438 hn0 hp0 s15 z100.1 koq1)
              have hJ117 := kG_i hGg110 7438 rfl (v := ((ig110 7438) - 1)) (kd_bd _)
              refine ft_go mi_k152 11 225 [(2, .int 1), (1, .int vg9), (0, .ref 116)] [.int 1] (ku ig110 7438 ((ig110 7438) - 1)) ag110 qg110 rg110 (by rfl) ?_
              have efig110_7437 : (ig110 7437).toInt = (ig99 7437).toInt := kg110.ti 7437 rfl
              have efig110_7429 : (ig110 7429).toInt = (ig99 7429).toInt := kg110.ti 7429 rfl
              have tg118 : vg9 = nmO (rHr t nn (i 7437, i 7439, a 127)) := (og9.trans (congrArg nmO og5))
              have td119 : ¬ (48 ≤ (rHr t nn (i 7437, i 7439, a 127)).toInt ∧ (rHr t nn (i 7437, i 7439, a 127)).toInt ≤ 57) := (oq179 c4 c98 z18.1 z3.2 koq0 koq33)
              have tk120 : (vg17, (ig17 7437, ig17 7439, ag17 127)) = rTk t nn 33 (i 7437, i 7439, a 127) := (tTkR og17 (kT2 (kg17.fi 7439 rfl) (kg17.fa 127 rfl)))
              have ta121 : (ig17 7437, ig17 7439, ag17 127) = rAt1 (i 7437, i 7439, a 127) := (rTk_yes tk120 (oq181 c98 z18.1 koq0 koq33))
              have tp122 : ((1 : Int32), (ig110 7437, ig110 7439, ag110 127)) = rPart t nn (some (rO t nn m)) (i 7437, i 7439, a 127) := rPt_not (sub := rO t nn m) td119 tg118 (oq130 c12 koq0) (oq180 c98 z18.1 koq0 koq33) (og99.trans (congrArg (rO t nn m) ta121)) (rC2_yes (oq151 c109 z100.2.2.2.2.2.1 koq0) (tCod og110.1 og110.2 (kg110.fi 7437 rfl)) rfl)
              exact ft_ret mi_k152 (by rfl) (hP 1 _ _ _ _ hJ117 ⟨(oq185 c98 efig110_7429 efig110_7437 efig110_7438 efig17_7438 efig17_7439 s116 s15 z100.1 z100.2.1 z100.2.2.1 z100.2.2.2.1 z100.2.2.2.2.1 z111.2 z18.1 koq0 koq1 koq33), (tp122.trans (congrFun (rO_s hm).symm _))⟩)
      ·
        have c123 : (i 7438).toInt = (6 : Int32).toInt := kd_neF c; clear c
        refine ft_go mi_k152 1 104 [(1, .int vg9), (0, .ref 116)] [.int 0] i a q r (by rfl) ?_
        have tg124 : vg9 = nmO (rHr t nn (i 7437, i 7439, a 127)) := (og9.trans (congrArg nmO og5))
        have td125 : ¬ (48 ≤ (rHr t nn (i 7437, i 7439, a 127)).toInt ∧ (rHr t nn (i 7437, i 7439, a 127)).toInt ≤ 57) := (oq129 c4 z3.2 koq0)
        have tp126 : ((0 : Int32), (i 7437, i 7439, a 127)) = rPart t nn none (i 7437, i 7439, a 127) := rPt_non td125 tg124 (oq130 c12 koq0) rfl rfl
        exact ft_ret mi_k152 (by rfl) (hP 0 _ _ _ _ hG ⟨(oq186 hp2 koq0), (tp126.trans (congrFun (rO_z (kj_n0 (oq187 c123 hp0 koq6))).symm _))⟩)
    ·
      have c127 : (0 : Int32).toInt ≤ vg9.toInt := kd_ltF c; clear c
      have s128 : ((i 7437) + 1).toInt = (i 7437).toInt + (1 : Int32).toInt := kd_add (oq115 fi_7437.1 koq1) (oq116 fi_7437.2 koq1)
      have hJ129 := kG_i hG 7437 rfl (v := ((i 7437) + 1)) ⟨(oq117 fi_7437.1 s128 koq1), (oq188 c127 fi_7429.2 s128 z10.2.2 z6.2.2 koq0 koq1)⟩
      refine ft_go mi_k152 8 90 [(1, .int vg9), (0, .ref 116)] [.int vg9, .ref 116] (ku i 7437 ((i 7437) + 1)) a q r (by rfl) ?_
      refine ko_callI mi_k152.1 (pc := 90) (ls := [(1, .int vg9), (0, .ref 116)]) (st := [.int vg9, .ref 116]) (h := ks (ku i 7437 ((i 7437) + 1)) a q r) (i := (.invokevirtual 177, 3, 149, 0, 9, 0, 405)) (mi_k152.2 _ _ (by rfl)) (ft_invS mi_pq149 (by rfl)) (cy := mi_c149) mi_pq149 rfl (kf149_116 hJ129.I hJ129.R vg9 (oq189 fi_7437.2 fi_7439.1 hp1)) (kj_d3 (n := n) (c := 1) (o1 := 10) (by decide)) ?_
      intro vg130 ig130 ag130 qg130 rg130 kg130 hg130
      have hGg130 := kG_call hJ129 kg130 (by decide +kernel)
      obtain ⟨hg130, og130⟩ := hg130
      have z131 : (vg130.toInt = 1) ∧ ((ig130 7439).toInt = ((i 7439).toInt + 1)) := hg130
      have q132 : ag130 127 = (a 127).set (i 7439).toNatClampNeg vg9 := og130.1
      have q133 : ig130 7439 = i 7439 + 1 := og130.2
      have efig130_7438 : (ig130 7438).toInt = (i 7438).toInt := kg130.ti 7438 rfl
      have efig130_7437 : (ig130 7437).toInt = ((i 7437) + 1).toInt := kg130.ti 7437 rfl
      have efig130_7429 : (ig130 7429).toInt = (i 7429).toInt := kg130.ti 7429 rfl
      have tg134 : vg9 = nmO (rHr t nn (i 7437, i 7439, a 127)) := (og9.trans (congrArg nmO og5))
      have tp135 : ∀ nx, (vg130, (ig130 7437, ig130 7439, ag130 127)) = rPart t nn nx (i 7437, i 7439, a 127) := fun nx => rPt_nam (nx := nx) (oq191 c127 hv8 z10.2.2 koq0) tg134 (oq192 c127 koq0) (tCod og130.1 og130.2 (kg130.fi 7437 rfl)) (kj_v1 (oq193 z131.1))
      obtain rfl : vg130 = 1 := kj_v1 z131.1
      exact ft_ret mi_k152 (by rfl) (hP (1 : Int32) _ _ _ _ hGg130 ⟨(oq190 c127 efig130_7429 efig130_7437 efig130_7438 s128 z10.2.2 z131.1 z131.2 z6.2.2 koq0 koq1), (rPt_lv (rO_any t nn n) tp135)⟩)
  ·
    have c136 : vg2.toInt ≠ (0 : Int32).toInt := kd_eqF c; clear c
    refine ft_go mi_k152 4 11 [(2, .int 0), (1, .int 0), (0, .ref 116)] [] i a q r (by rfl) ?_
    have lp137 : ∀ (nz : Nat) (i137 : Nat → Int32) (a137 : Nat → List Int32) (q137 : Nat → List Int64) (r137 : Nat → Nat) (l2_137 : Int32) (l1_137 : Int32), kG yw152_116_L11 i a q r i137 a137 q137 r137 → ((l2_137.toInt = 0) ∧ (l1_137.toInt = 0)) ∨ ((l2_137.toInt = 1) ∧ ((0 : Int) ≤ l1_137.toInt) ∧ (l1_137.toInt ≤ 9)) ∨ ((l2_137.toInt = 2) ∧ ((0 : Int) ≤ l1_137.toInt) ∧ (l1_137.toInt ≤ 99)) ∨ ((l2_137.toInt = 3) ∧ ((0 : Int) ≤ l1_137.toInt) ∧ (l1_137.toInt ≤ 999)) ∨ ((l2_137.toInt = 4) ∧ ((0 : Int) ≤ l1_137.toInt) ∧ (l1_137.toInt ≤ 9999)) → (i137 7438).toInt = (i 7438).toInt → ((i 7437).toInt + l2_137.toInt) ≤ (i137 7437).toInt → (i137 7437).toInt ≤ (i137 7429).toInt → ((1 : Int) ≤ l2_137.toInt) ∨ ((i137 7437).toInt = (i 7437).toInt) → rDig t nn (4 - l2_137.toInt).toNat (l1_137, i137 7437) = rDig t nn 4 (0, i 7437) → ((4 - l2_137.toInt)).toNat < nz → ko (6 * n + 10) (mi_h152, mi_c152) P (11, [(2, .int l2_137), (1, .int l1_137), (0, .ref 116)], [], (0, 0), ks i137 a137 q137 r137) := by
      intro nz
      induction nz with
      | zero =>
        intro _ _ _ _ _ _ _ _ _ _ _ _ _ hm
        exact absurd hm (Nat.not_lt_zero _)
      | succ nz ih137 =>
        intro i137 a137 q137 r137 l2_137 l1_137 hL137 p137_0 p137_1 p137_2 p137_3 p137_4 O137_0 hm137
        have efi137_7438 : (i137 7438).toInt = (i 7438).toInt := hL137.ti 7438 rfl
        have fi137_7437 : ((0 : Int) ≤ (i137 7437).toInt) ∧ ((i137 7437).toInt ≤ 120) := hL137.I.1 7437
        have fi137_7429 : ((0 : Int) ≤ (i137 7429).toInt) ∧ ((i137 7429).toInt ≤ 120) := hL137.I.1 7429
        have efi137_7429 : (i137 7429).toInt = (i 7429).toInt := hL137.ti 7429 rfl
        have q138 : ((i137 7437).toInt = (i 7437).toInt → (cHr t nn (i137 7437) 0).toInt = (cHr t nn (i 7437) 0).toInt) := fun h => congrArg Int32.toInt (kHr_c (t := t) (n := nn) (kj_v h) rfl)
        refine ft_go mi_k152 2 13 [(2, .int l2_137), (1, .int l1_137), (0, .ref 116)] [.int 4, .int l2_137] i137 a137 q137 r137 (by rfl) ?_
        refine ft_if mi_k152 (decide (4 ≤ l2_137)) 57 16 [(2, .int l2_137), (1, .int l1_137), (0, .ref 116)] [] (by rfl) (fun c => ?_) (fun c => ?_)
        ·
          have c139 : (4 : Int32).toInt ≤ l2_137.toInt := kd_le c; clear c
          have hG140 := kG_call hG hL137 (by decide +kernel)
          have hD141 : (l1_137, i137 7437) = rDig t nn 4 (0, i 7437) := rDg_end O137_0 (kj_sub0 (n := 4) (oq230 c139 koq4))
          have s142 : (18 + l1_137).toInt = (18 : Int32).toInt + l1_137.toInt := kd_add (oq231 c139 p137_0 koq4 koq18) (oq232 c139 p137_0 koq4 koq18)
          refine ft_go mi_k152 4 62 [(2, .int l2_137), (1, .int l1_137), (0, .ref 116)] [.int (18 + l1_137), .ref 116] i137 a137 q137 r137 (by rfl) ?_
          have fi137_7439 : ((0 : Int) ≤ (i137 7439).toInt) ∧ ((i137 7439).toInt ≤ 200) := hG140.I.1 7439
          have efi137_7439 : (i137 7439).toInt = (i 7439).toInt := hL137.ti 7439 rfl
          refine ko_callI mi_k152.1 (pc := 62) (ls := [(2, .int l2_137), (1, .int l1_137), (0, .ref 116)]) (st := [.int (18 + l1_137), .ref 116]) (h := ks i137 a137 q137 r137) (i := (.invokevirtual 177, 3, 149, 0, 9, 0, 405)) (mi_k152.2 _ _ (by rfl)) (ft_invS mi_pq149 (by rfl)) (cy := mi_c149) mi_pq149 rfl (kf149_116 hG140.I hG140.R (18 + l1_137) (oq233 efi137_7439 fi137_7439.1 fi_7437.2 hp1)) (kj_d3 (n := n) (c := 1) (o1 := 10) (by decide)) ?_
          intro vg143 ig143 ag143 qg143 rg143 kg143 hg143
          have hGg143 := kG_call hG140 kg143 (by decide +kernel)
          obtain ⟨hg143, og143⟩ := hg143
          have z144 : (vg143.toInt = 1) ∧ ((ig143 7439).toInt = ((i137 7439).toInt + 1)) := hg143
          have q145 : ag143 127 = (a137 127).set (i137 7439).toNatClampNeg (18 + l1_137) := og143.1
          have q146 : ig143 7439 = i137 7439 + 1 := og143.2
          have efig143_7438 : (ig143 7438).toInt = (i137 7438).toInt := kg143.ti 7438 rfl
          have efig143_7437 : (ig143 7437).toInt = (i137 7437).toInt := kg143.ti 7437 rfl
          have efig143_7429 : (ig143 7429).toInt = (i137 7429).toInt := kg143.ti 7429 rfl
          have to147 : (ig143 7437, ig143 7439, ag143 127) = rCod (18 + l1_137) (i137 7437, (i 7439, a 127)) := ((tCod og143.1 og143.2 (kg143.fi 7437 rfl))).trans (congrArg (fun z : Int32 × List Int32 => rCod (18 + l1_137) (i137 7437, z)) (kT2 (hL137.fi 7439 rfl) (hL137.fa 127 rfl)))
          have tp148 : ∀ nx, (vg143, (ig143 7437, ig143 7439, ag143 127)) = rPart t nn nx (i 7437, i 7439, a 127) := fun nx => rPt_num (nx := nx) (oq215 c136 z3.1 koq0) (oq216 c136 z3.1 koq0) hD141 rfl to147 (kj_v1 (oq193 z144.1))
          obtain rfl : vg143 = 1 := kj_v1 z144.1
          exact ft_ret mi_k152 (by rfl) (hP (1 : Int32) _ _ _ _ hGg143 ⟨(oq234 c139 efi137_7438 efi137_7439 efig143_7429 efig143_7437 efig143_7438 p137_2 p137_3 z144.1 z144.2 koq4), (rPt_lv (rO_any t nn n) tp148)⟩)
        ·
          have c149 : l2_137.toInt < (4 : Int32).toInt := kd_leF c; clear c
          refine ft_go mi_k152 1 17 [(2, .int l2_137), (1, .int l1_137), (0, .ref 116)] [.ref 116] i137 a137 q137 r137 (by rfl) ?_
          refine ko_callPI mi_k152.1 (pc := 17) (ls := [(2, .int l2_137), (1, .int l1_137), (0, .ref 116)]) (st := [.ref 116]) (h := ks i137 a137 q137 r137) (i := (.invokevirtual 173, 3, 150, 0, 9, 0, 403)) (mi_k152.2 _ _ (by rfl)) (ft_invS mi_pq150 (by rfl)) (cy := mi_c150) mi_pq150 rfl (ke150_116 hL137.I hL137.R t nn ((hL137.fa 119 rfl).trans hT) ((hL137.fi 7429 rfl).trans hN) hX) (kj_d3 (n := n) (c := 3) (o1 := 10) (by decide)) ?_
          intro vg150 hg150
          have z151 : (((vg150.toInt = 1) ∧ ((48 : Int) ≤ (cHr t nn (i137 7437) 0).toInt) ∧ ((cHr t nn (i137 7437) 0).toInt ≤ 57) ∧ ((i137 7437).toInt < (i137 7429).toInt)) ∨ (vg150.toInt = 0)) ∧ (((vg150.toInt = 0) → (¬ (((48 : Int) ≤ (cHr t nn (i137 7437) 0).toInt) ∧ ((cHr t nn (i137 7437) 0).toInt ≤ 57))))) := hg150
          refine ft_if mi_k152 (vg150 == 0) 57 23 [(2, .int l2_137), (1, .int l1_137), (0, .ref 116)] [] (by rfl) (fun c => ?_) (fun c => ?_)
          ·
            have c152 : vg150.toInt = (0 : Int32).toInt := kd_eq c; clear c
            have hG153 := kG_call hG hL137 (by decide +kernel)
            have hD154 : (l1_137, i137 7437) = rDig t nn 4 (0, i 7437) := rDg_out O137_0 (oq129 c152 z151.2 koq0)
            have s155 : (18 + l1_137).toInt = (18 : Int32).toInt + l1_137.toInt := kd_add (oq235 c149 p137_0 koq4 koq18) (oq236 c149 p137_0 koq4 koq18)
            refine ft_go mi_k152 4 62 [(2, .int l2_137), (1, .int l1_137), (0, .ref 116)] [.int (18 + l1_137), .ref 116] i137 a137 q137 r137 (by rfl) ?_
            have fi137_7439 : ((0 : Int) ≤ (i137 7439).toInt) ∧ ((i137 7439).toInt ≤ 200) := hG153.I.1 7439
            have efi137_7439 : (i137 7439).toInt = (i 7439).toInt := hL137.ti 7439 rfl
            refine ko_callI mi_k152.1 (pc := 62) (ls := [(2, .int l2_137), (1, .int l1_137), (0, .ref 116)]) (st := [.int (18 + l1_137), .ref 116]) (h := ks i137 a137 q137 r137) (i := (.invokevirtual 177, 3, 149, 0, 9, 0, 405)) (mi_k152.2 _ _ (by rfl)) (ft_invS mi_pq149 (by rfl)) (cy := mi_c149) mi_pq149 rfl (kf149_116 hG153.I hG153.R (18 + l1_137) (oq233 efi137_7439 fi137_7439.1 fi_7437.2 hp1)) (kj_d3 (n := n) (c := 1) (o1 := 10) (by decide)) ?_
            intro vg156 ig156 ag156 qg156 rg156 kg156 hg156
            have hGg156 := kG_call hG153 kg156 (by decide +kernel)
            obtain ⟨hg156, og156⟩ := hg156
            have z157 : (vg156.toInt = 1) ∧ ((ig156 7439).toInt = ((i137 7439).toInt + 1)) := hg156
            have q158 : ag156 127 = (a137 127).set (i137 7439).toNatClampNeg (18 + l1_137) := og156.1
            have q159 : ig156 7439 = i137 7439 + 1 := og156.2
            have efig156_7438 : (ig156 7438).toInt = (i137 7438).toInt := kg156.ti 7438 rfl
            have efig156_7437 : (ig156 7437).toInt = (i137 7437).toInt := kg156.ti 7437 rfl
            have efig156_7429 : (ig156 7429).toInt = (i137 7429).toInt := kg156.ti 7429 rfl
            have to160 : (ig156 7437, ig156 7439, ag156 127) = rCod (18 + l1_137) (i137 7437, (i 7439, a 127)) := ((tCod og156.1 og156.2 (kg156.fi 7437 rfl))).trans (congrArg (fun z : Int32 × List Int32 => rCod (18 + l1_137) (i137 7437, z)) (kT2 (hL137.fi 7439 rfl) (hL137.fa 127 rfl)))
            have tp161 : ∀ nx, (vg156, (ig156 7437, ig156 7439, ag156 127)) = rPart t nn nx (i 7437, i 7439, a 127) := fun nx => rPt_num (nx := nx) (oq215 c136 z3.1 koq0) (oq216 c136 z3.1 koq0) hD154 rfl to160 (kj_v1 (oq193 z157.1))
            obtain rfl : vg156 = 1 := kj_v1 z157.1
            exact ft_ret mi_k152 (by rfl) (hP (1 : Int32) _ _ _ _ hGg156 ⟨(oq237 c136 c152 efi137_7438 efi137_7439 efig156_7429 efig156_7437 efig156_7438 p137_2 p137_3 p137_4 q138 z151.2 z157.1 z157.2 z3.1 koq0), (rPt_lv (rO_any t nn n) tp161)⟩)
          ·
            have c162 : vg150.toInt ≠ (0 : Int32).toInt := kd_eqF c; clear c
            have s163 : (10 * l1_137).toInt = 10 * l1_137.toInt := kd_cmul 10 koq10 (oq238 c149 p137_0 koq4) (oq239 c149 p137_0 koq4)
            refine ft_go mi_k152 7 35 [(2, .int l2_137), (1, .int l1_137), (0, .ref 116)] [.int (i137 7437), .ref 119, .int (10 * l1_137)] i137 a137 q137 r137 (by rfl) ?_
            refine ko_iald3 mi_k152.1 (n := 120) (c := 120) (ax := (0, 0, 0, 0, 0)) (mi_k152.2 _ _ (by rfl)) (by rfl) (ksG119 _ _ _ _) (hL137.I.2.1 119) rfl (oq2 fi137_7437.1) (oq198 c162 fi137_7429.2 z151.1 koq0) ?_
            have hd164 : ((a137 119).getD (i137 7437).toNatClampNeg 0).toInt = (cHr t nn (i137 7437) 0).toInt := congrArg Int32.toInt ((congrArg (fun z : List Int32 => z.getD (i137 7437).toNatClampNeg 0) ((hL137.fa 119 rfl).trans hT)).trans (cHr_in koq0 (oq240 c162 efi137_7429 hn1 z151.1 koq0)))
            have s165 : ((10 * l1_137) + ((a137 119).getD (i137 7437).toNatClampNeg 0)).toInt = (10 * l1_137).toInt + ((a137 119).getD (i137 7437).toNatClampNeg 0).toInt := kd_add (oq241 c149 c162 hd164 p137_0 p137_2 p137_4 s163 z151.1 koq4 koq0) (oq242 c149 c162 hd164 p137_0 p137_2 p137_4 s163 z151.1 koq4 koq0)
            have s166 : (((10 * l1_137) + ((a137 119).getD (i137 7437).toNatClampNeg 0)) - 48).toInt = ((10 * l1_137) + ((a137 119).getD (i137 7437).toNatClampNeg 0)).toInt - (48 : Int32).toInt := kd_sub (oq243 c149 c162 hd164 p137_0 p137_2 p137_4 s163 s165 z151.1 koq4 koq0 koq48) (oq244 c149 c162 hd164 p137_0 p137_2 p137_4 s163 s165 z151.1 koq4 koq0 koq48)
            have s167 : ((i137 7437) + 1).toInt = (i137 7437).toInt + (1 : Int32).toInt := kd_add (oq115 fi137_7437.1 koq1) (oq116 fi137_7437.2 koq1)
            have hJ168 := kG_i hL137 7437 rfl (v := ((i137 7437) + 1)) ⟨(oq117 fi137_7437.1 s167 koq1), (oq204 c162 fi137_7429.2 s167 z151.1 koq0 koq1)⟩
            have s169 : (l2_137 + 1).toInt = l2_137.toInt + (1 : Int32).toInt := kd_add (oq205 p137_0 koq1) (oq206 c149 koq4 koq1)
            refine ft_go mi_k152 12 11 [(2, .int (l2_137 + 1)), (1, .int (((10 * l1_137) + ((a137 119).getD (i137 7437).toNatClampNeg 0)) - 48)), (0, .ref 116)] [] (ku i137 7437 ((i137 7437) + 1)) a137 q137 r137 (by rfl) ?_
            exact ih137 _ _ _ _ _ _ hJ168 (oq245 c149 c162 hd164 p137_0 s163 s165 s166 s169 z151.1 koq4 koq0 koq48 koq1) (oq208 efi137_7438) (oq209 p137_2 s167 s169 koq1) (oq210 c162 s167 z151.1 koq0 koq1) (oq211 p137_0 s169 koq1) (rDg_again O137_0 (kj_sub2 (n := 4) (oq212 c149 koq4) (oq213 p137_0) (oq214 s169 koq1)) (oq215 c162 z151.1 koq0) (oq216 c162 z151.1 koq0) (congrArg (fun z : Int32 => ((10 * l1_137) + z) - 48) ((congrArg (fun z : List Int32 => z.getD (i137 7437).toNatClampNeg 0) ((hL137.fa 119 rfl).trans hT)).trans (cHr_in koq0 (oq240 c162 efi137_7429 hn1 z151.1 koq0)))) rfl) (kj_meas (oq217 s169 koq1) (oq218 c149 koq4) hm137)
    exact lp137 _ _ _ _ _ _ _ (kG_self _ hG.I hG.R) (oq219 koq0) oq220 (oq221 koq0) (oq222 hp2) (oq223 koq0) (by rw [koq0]; rfl) (Nat.lt_succ_self _)
