theorem ktov0 : (0 : Int32).toInt = 0 := by decide
theorem ktov10 : (10 : Int32).toInt = 10 := by decide
theorem tov10 {a0 : Int} (h0 : (0 : Int) ≤ a0) : (0 : Int) ≤ a0 := by omega
theorem tov27 {a0 : Int} (h0 : a0 = 1) : a0 = ((1 : Nat) : Int) := by omega
theorem tov31 {a0 : Int} (h0 : a0 = 2) : a0 = ((2 : Nat) : Int) := by omega
theorem tov35 {a0 : Int} (h0 : a0 = 3) : a0 = ((3 : Nat) : Int) := by omega
theorem tov39 {a0 : Int} (h0 : a0 = 4) : a0 = ((4 : Nat) : Int) := by omega
theorem tov81 {a0 : Int} (h0 : a0 = 0) : a0 = ((0 : Nat) : Int) := by omega
theorem tov83 {a0 : Int} (h0 : a0 = 5) : a0 = ((5 : Nat) : Int) := by omega
theorem tov85 {a0 a1 : Int} (h0 : a0 ≠ a1) (h1 : a1 ≤ a0) (h2 : a0 ≤ 0) (h3 : a1 = 0) : False := by omega
theorem tov86 {a0 : Int} (h0 : (0 : Int) ≤ a0) (h1 : (0 : Int) ≤ (a0 / 10)) (h2 : (a0 / 10) ≤ 5) (h3 : (a0 % 10) ≤ 5) : ((0 : Int) ≤ a0) ∧ (((0 : Int) ≤ (a0 / 10)) ∧ ((a0 / 10) ≤ 5)) ∧ ((a0 % 10) ≤ 5) := by omega
theorem tov87 {a0 a1 : Int} (h0 : a0 < a1) (h1 : a1 = 0) : a0 < 0 := by omega
theorem tov93 {a0 a1 : Int} (h0 : a0 = a1) (h1 : a1 = 0) : ¬ (a0 < 0) := by omega
theorem tov105 {a0 a1 a2 : Int} (h0 : a0 ≤ a1) (h1 : (a1 < 0) ∨ ((a1 = 0) ∧ ((0 : Int) ≤ a2) ∧ (a2 ≤ 5))) (h2 : a0 = 0) : a1 = 0 := by omega
theorem tov106 {a0 a1 : Int} (h0 : a0 = (a1 % 10)) (h1 : ¬ (a0 = 0)) (h2 : ¬ (a0 = 1)) (h3 : ¬ (a0 = 2)) (h4 : ¬ (a0 = 3)) (h5 : ¬ (a0 = 4)) (h6 : ¬ (a0 = 5)) (h7 : (a1 % 10) ≤ 5) : False := by omega
theorem tov107 {a0 : Int} (h0 : ¬ (((0 : Int) ≤ a0) ∧ (((0 : Int) ≤ (a0 / 10)) ∧ ((a0 / 10) ≤ 5)) ∧ ((a0 % 10) ≤ 5))) : ¬ (((0 : Int) ≤ a0) ∧ (((0 : Int) ≤ (a0 / 10)) ∧ ((a0 / 10) ≤ 5)) ∧ ((a0 % 10) ≤ 5)) := by omega
def yw97_0 : kW := ([645, 3138, 3200, 3206, 3207, 3208, 3209, 3214, 3215, 3216, 3586, 3781, 6405], [13, 51, 52, 53, 54, 55, 57, 58, 62, 63, 65, 66, 67, 68, 69, 70, 71, 72, 73, 74, 75, 76, 77, 103], [], [1])
set_option maxRecDepth 100000 in
theorem ke97_0 {i : Nat → Int32} {a : Nat → List Int32} {q : Nat → List Int64} {r : Nat → Nat} (hI : kI i a q) (hr : kr r) (x1 : Int32) (hN : kNoW i a r) : km 13 97 [.ref 0, .int x1] (ks i a q r) (kVI yw97_0 i a q r (fun v i1 a1 q1 r1 => (True) ∧ cTop (((0 : Int) ≤ x1.toInt) ∧ (((0 : Int) ≤ (x1.toInt / 10)) ∧ ((x1.toInt / 10) ≤ 5)) ∧ ((x1.toInt % 10) ≤ 5)) i q (x1 / 10) v (fun n L => cSe i (x1 - x1 / 10 * 10) v (fun t => fJd (gKn i a) (gB i a) n L (i (6659 + 128 * t)).toInt (fun j => ((q (105 + 2 * t)).getD j 0).toInt) v)))) := by
  have hG := kG_self yw97_0 hI hr
  refine km_ofI (q := (mi_h97, mi_c97)) rfl (by decide) (Nat.le_of_ble_eq_true rfl) ?_
  intro P hP
  first | refine ft_go mi_k97 1 1 [(0, .ref 0), (1, .int x1)] [.int x1] i a q r (by rfl) ?_ | refine ko_steps mi_in97 1 _ (1, [(0, .ref 0), (1, .int x1)], [.int x1], (0, 0), ks i a q r) (by rfl) ?_
  refine ko_callPI mi_k97.1 (pc := 1) (ls := [(0, .ref 0), (1, .int x1)]) (st := [.int x1]) (h := ks i a q r) (i := (.invokestatic 214, 3, 122, 0, 9, 0, 260)) (mi_k97.2 _ _ (by rfl)) (ft_invS mi_pq122 (by rfl)) (cy := mi_c122) mi_pq122 rfl (kc122 hG.I hG.R x1) (by decide) ?_
  intro vg1 hg1
  rcases hg1 with ⟨eg1, hg1⟩ | ⟨eg1, hg1⟩
  ·
    subst eg1
    have z2 : ((0 : Int) ≤ x1.toInt) ∧ (((0 : Int) ≤ (x1.toInt / 10)) ∧ ((x1.toInt / 10) ≤ 5)) ∧ ((x1.toInt % 10) ≤ 5) := hg1
    have s3 : (x1 / 10).toInt = (x1.toInt / 10) := kd_div 10 ktov10 (by decide) (tov10 z2.1)
    first | refine ft_go mi_k97 5 14 [(0, .ref 0), (1, .int x1)] [.int (x1 / 10), .ref 0] i a q r (by rfl) ?_ | refine ko_steps mi_in97 5 _ (14, [(0, .ref 0), (1, .int x1)], [.int (x1 / 10), .ref 0], (0, 0), ks i a q r) (by rfl) ?_
    refine ko_callI mi_k97.1 (pc := 14) (ls := [(0, .ref 0), (1, .int x1)]) (st := [.int (x1 / 10), .ref 0]) (h := ks i a q r) (i := (.invokevirtual 144, 3, 129, 0, 9, 0, 208)) (mi_k97.2 _ _ (by rfl)) (ft_invS mi_pq129 (by rfl)) (cy := mi_c129) mi_pq129 rfl (kg129_0 hG.I hG.R (x1 / 10)) (by decide) ?_
    intro vg4 ig4 ag4 qg4 rg4 kg4 hg4
    have hGg4 := kG_call hG kg4 (by decide +kernel)
    obtain ⟨hg4, og4⟩ := hg4
    have z5 : vg4.toInt ≤ 0 := hg4
    first | refine ft_go mi_k97 2 19 [(2, .int vg4), (0, .ref 0), (1, .int x1)] [.int vg4] ig4 ag4 qg4 rg4 (by rfl) ?_ | refine ko_steps mi_in97 2 _ (19, [(2, .int vg4), (0, .ref 0), (1, .int x1)], [.int vg4], (0, 0), ks ig4 ag4 qg4 rg4) (by rfl) ?_
    refine ft_if mi_k97 (vg4 != 0) 31 22 [(2, .int vg4), (0, .ref 0), (1, .int x1)] [] (by rfl) (fun c => ?_) (fun c => ?_)
    ·
      have c6 : vg4.toInt ≠ (0 : Int32).toInt := kd_ne c; clear c
      first | refine ft_go mi_k97 1 32 [(2, .int vg4), (0, .ref 0), (1, .int x1)] [.int vg4] ig4 ag4 qg4 rg4 (by rfl) ?_ | refine ko_steps mi_in97 1 _ (32, [(2, .int vg4), (0, .ref 0), (1, .int x1)], [.int vg4], (0, 0), ks ig4 ag4 qg4 rg4) (by rfl) ?_
      refine ft_if mi_k97 (decide (0 ≤ vg4)) 37 35 [(2, .int vg4), (0, .ref 0), (1, .int x1)] [] (by rfl) (fun c => ?_) (fun c => ?_)
      ·
        have c7 : (0 : Int32).toInt ≤ vg4.toInt := kd_le c; clear c
        exact (tov85 c6 c7 z5 ktov0).elim
      ·
        have c8 : vg4.toInt < (0 : Int32).toInt := kd_leF c; clear c
        first | refine ft_go mi_k97 1 36 [(2, .int vg4), (0, .ref 0), (1, .int x1)] [.int vg4] ig4 ag4 qg4 rg4 (by rfl) ?_ | refine ko_steps mi_in97 1 _ (36, [(2, .int vg4), (0, .ref 0), (1, .int x1)], [.int vg4], (0, 0), ks ig4 ag4 qg4 rg4) (by rfl) ?_
        exact ft_ret mi_k97 (by rfl) (hP vg4 _ _ _ _ hGg4 ⟨trivial, (Or.inr ⟨(tov86 z2.1 z2.2.1.1 z2.2.1.2 z2.2.2), cShf_bar og4 (tov87 c8 ktov0)⟩)⟩)
    ·
      have c9 : vg4.toInt = (0 : Int32).toInt := kd_neF c; clear c
      have s10 : (x1 - x1 / 10 * 10).toInt = (x1.toInt % 10) := kd_rem 10 ktov10 (by decide) (tov10 z2.1)
      first | refine ft_go mi_k97 4 27 [(2, .int vg4), (0, .ref 0), (1, .int x1)] [.int (x1 - x1 / 10 * 10), .ref 0] ig4 ag4 qg4 rg4 (by rfl) ?_ | refine ko_steps mi_in97 4 _ (27, [(2, .int vg4), (0, .ref 0), (1, .int x1)], [.int (x1 - x1 / 10 * 10), .ref 0], (0, 0), ks ig4 ag4 qg4 rg4) (by rfl) ?_
      refine ko_callPI mi_k97.1 (pc := 27) (ls := [(2, .int vg4), (0, .ref 0), (1, .int x1)]) (st := [.int (x1 - x1 / 10 * 10), .ref 0]) (h := ks ig4 ag4 qg4 rg4) (i := (.invokevirtual 217, 3, 127, 0, 9, 0, 209)) (mi_k97.2 _ _ (by rfl)) (ft_invS mi_pq127 (by rfl)) (cy := mi_c127) mi_pq127 rfl (kg127_0 hGg4.I hGg4.R (x1 - x1 / 10 * 10)) (by decide) ?_
      intro vg11 hg11
      obtain ⟨hg11, og11⟩ := hg11
      have z12 : (vg11.toInt < 0) ∨ ((vg11.toInt = 0) ∧ ((0 : Int) ≤ (x1 - x1 / 10 * 10).toInt) ∧ ((x1 - x1 / 10 * 10).toInt ≤ 5)) := hg11
      have oS13 : cRb i (x1 - x1 / 10 * 10) vg11 := cRb_fr hGg4 (by decide +kernel) og11
      first | refine ft_go mi_k97 2 32 [(2, .int vg11), (0, .ref 0), (1, .int x1)] [.int vg11] ig4 ag4 qg4 rg4 (by rfl) ?_ | refine ko_steps mi_in97 2 _ (32, [(2, .int vg11), (0, .ref 0), (1, .int x1)], [.int vg11], (0, 0), ks ig4 ag4 qg4 rg4) (by rfl) ?_
      refine ft_if mi_k97 (decide (0 ≤ vg11)) 37 35 [(2, .int vg11), (0, .ref 0), (1, .int x1)] [] (by rfl) (fun c => ?_) (fun c => ?_)
      ·
        have c14 : (0 : Int32).toInt ≤ vg11.toInt := kd_le c; clear c
        first | refine ft_go mi_k97 4 45 [(2, .int vg11), (0, .ref 0), (1, .int x1)] [.ref 1, .ref 49] ig4 ag4 qg4 rg4 (by rfl) ?_ | refine ko_steps mi_in97 4 _ (45, [(2, .int vg11), (0, .ref 0), (1, .int x1)], [.ref 1, .ref 49], (0, 0), ks ig4 ag4 qg4 rg4) (by rfl) ?_
        refine ko_callN mi_k97.1 (pc := 45) (ls := [(2, .int vg11), (0, .ref 0), (1, .int x1)]) (st := [.ref 1, .ref 49]) (h := ks ig4 ag4 qg4 rg4) (i := (.invokevirtual 147, 3, 59, 0, 9, 0, 211)) (mi_k97.2 _ _ (by rfl)) (ft_invS mi_pq59 (by rfl)) (cy := mi_c59) mi_pq59 rfl (ke59_49_1 hGg4.I hGg4.R (kNoW_fr hGg4 (by decide +kernel) hr hN) (cRow1_row (cPl_row og4 (tov93 c9 ktov0)) (hGg4.fi 64 rfl))) (by decide) ?_
        intro ig15 ag15 qg15 rg15 kg15 hg15
        have hGg15 := kG_call hGg4 kg15 (by decide +kernel)
        obtain ⟨hg15, og15⟩ := hg15
        have oT16 := og15
        rw [(gKn_fr hGg4 (by decide +kernel) : gKn ig4 ag4 = gKn i a), (gB_eq (kg4.fa 118 rfl) (kg4.fi 3214 rfl) (kg4.fi 3215 rfl) (kg4.fi 3216 rfl) : gB ig4 ag4 = gB i a)] at oT16
        have tT17 : kThm ig15 ag15 rg15 (gAt (gKn i a) (ag4 74) (gB i a) (ig4 3138).toInt.toNat) := oT16.1
        first | refine ft_go mi_k97 7 60 [(2, .int vg11), (0, .ref 0), (1, .int x1)] [.int (x1 - x1 / 10 * 10), .ref 97, .ref 49] ig15 ag15 qg15 rg15 (by rfl) ?_ | refine ko_steps mi_in97 7 _ (60, [(2, .int vg11), (0, .ref 0), (1, .int x1)], [.int (x1 - x1 / 10 * 10), .ref 97, .ref 49], (0, 0), ks ig15 ag15 qg15 rg15) (by rfl) ?_
        by_cases w18 : (x1 - x1 / 10 * 10).toInt = 0
        ·
          refine ko_eq (x1 := (60, [(2, .int vg11), (0, .ref 0), (1, .int x1)], [.int 0, .ref 97, .ref 49], (0, 0), ks ig15 ag15 qg15 rg15)) (by rw [(kj_eq w18 (by decide) : (x1 - x1 / 10 * 10) = 0)]) ?_
          first | refine ft_go mi_k97 1 61 [(2, .int vg11), (0, .ref 0), (1, .int x1)] [.ref 104, .ref 49] ig15 ag15 qg15 rg15 (by rfl) ?_ | refine ko_steps mi_in97 1 _ (61, [(2, .int vg11), (0, .ref 0), (1, .int x1)], [.ref 104, .ref 49], (0, 0), ks ig15 ag15 qg15 rg15) (by rfl) ?_
          refine ko_callPI mi_k97.1 (pc := 61) (ls := [(2, .int vg11), (0, .ref 0), (1, .int x1)]) (st := [.ref 104, .ref 49]) (h := ks ig15 ag15 qg15 rg15) (i := (.invokevirtual 220, 3, 73, 0, 9, 0, 261)) (mi_k97.2 _ _ (by rfl)) (ft_invS mi_pq73 (by rfl)) (cy := mi_c73) mi_pq73 rfl (ke73_49_104 hGg15.I hGg15.R ) (by decide) ?_
          intro vg19 hg19
          obtain ⟨hg19, og19⟩ := hg19
          have oU20 : fJd (gKn i a) (gB i a) (ig4 3138).toInt (ag4 74) (i 6659).toInt (fun j => ((q 105).getD j 0).toInt) vg19 := fJd_c oT16.2 og19 (congrArg Int32.toInt ((kg15.fi 3138 rfl) : ig15 3138 = ig4 3138)) (congrArg Int32.toInt (((kg15.fi 6659 rfl).trans (kg4.fi 6659 rfl)) : ig15 6659 = i 6659)) (congrArg (fun z : List Int64 => fun j : Nat => (z.getD j 0).toInt) (hGg15.fq 105 rfl : qg15 105 = q 105))
          exact ft_ret mi_k97 (by rfl) (hP vg19 _ _ _ _ hGg15 ⟨trivial, (Or.inr ⟨(tov86 z2.1 z2.2.1.1 z2.2.1.2 z2.2.2), cShf_go (cPl_row og4 (tov93 c9 ktov0)) (cSe_go (t := 0) (by decide) (tov81 w18) oS13 (tov105 c14 z12 ktov0) oU20)⟩)⟩)
        by_cases w21 : (x1 - x1 / 10 * 10).toInt = 1
        ·
          refine ko_eq (x1 := (60, [(2, .int vg11), (0, .ref 0), (1, .int x1)], [.int 1, .ref 97, .ref 49], (0, 0), ks ig15 ag15 qg15 rg15)) (by rw [(kj_eq w21 (by decide) : (x1 - x1 / 10 * 10) = 1)]) ?_
          first | refine ft_go mi_k97 1 61 [(2, .int vg11), (0, .ref 0), (1, .int x1)] [.ref 106, .ref 49] ig15 ag15 qg15 rg15 (by rfl) ?_ | refine ko_steps mi_in97 1 _ (61, [(2, .int vg11), (0, .ref 0), (1, .int x1)], [.ref 106, .ref 49], (0, 0), ks ig15 ag15 qg15 rg15) (by rfl) ?_
          refine ko_callPI mi_k97.1 (pc := 61) (ls := [(2, .int vg11), (0, .ref 0), (1, .int x1)]) (st := [.ref 106, .ref 49]) (h := ks ig15 ag15 qg15 rg15) (i := (.invokevirtual 220, 3, 73, 0, 9, 0, 261)) (mi_k97.2 _ _ (by rfl)) (ft_invS mi_pq73 (by rfl)) (cy := mi_c73) mi_pq73 rfl (ke73_49_106 hGg15.I hGg15.R ) (by decide) ?_
          intro vg22 hg22
          obtain ⟨hg22, og22⟩ := hg22
          have oU23 : fJd (gKn i a) (gB i a) (ig4 3138).toInt (ag4 74) (i 6787).toInt (fun j => ((q 107).getD j 0).toInt) vg22 := fJd_c oT16.2 og22 (congrArg Int32.toInt ((kg15.fi 3138 rfl) : ig15 3138 = ig4 3138)) (congrArg Int32.toInt (((kg15.fi 6787 rfl).trans (kg4.fi 6787 rfl)) : ig15 6787 = i 6787)) (congrArg (fun z : List Int64 => fun j : Nat => (z.getD j 0).toInt) (hGg15.fq 107 rfl : qg15 107 = q 107))
          exact ft_ret mi_k97 (by rfl) (hP vg22 _ _ _ _ hGg15 ⟨trivial, (Or.inr ⟨(tov86 z2.1 z2.2.1.1 z2.2.1.2 z2.2.2), cShf_go (cPl_row og4 (tov93 c9 ktov0)) (cSe_go (t := 1) (by decide) (tov27 w21) oS13 (tov105 c14 z12 ktov0) oU23)⟩)⟩)
        by_cases w24 : (x1 - x1 / 10 * 10).toInt = 2
        ·
          refine ko_eq (x1 := (60, [(2, .int vg11), (0, .ref 0), (1, .int x1)], [.int 2, .ref 97, .ref 49], (0, 0), ks ig15 ag15 qg15 rg15)) (by rw [(kj_eq w24 (by decide) : (x1 - x1 / 10 * 10) = 2)]) ?_
          first | refine ft_go mi_k97 1 61 [(2, .int vg11), (0, .ref 0), (1, .int x1)] [.ref 108, .ref 49] ig15 ag15 qg15 rg15 (by rfl) ?_ | refine ko_steps mi_in97 1 _ (61, [(2, .int vg11), (0, .ref 0), (1, .int x1)], [.ref 108, .ref 49], (0, 0), ks ig15 ag15 qg15 rg15) (by rfl) ?_
          refine ko_callPI mi_k97.1 (pc := 61) (ls := [(2, .int vg11), (0, .ref 0), (1, .int x1)]) (st := [.ref 108, .ref 49]) (h := ks ig15 ag15 qg15 rg15) (i := (.invokevirtual 220, 3, 73, 0, 9, 0, 261)) (mi_k97.2 _ _ (by rfl)) (ft_invS mi_pq73 (by rfl)) (cy := mi_c73) mi_pq73 rfl (ke73_49_108 hGg15.I hGg15.R ) (by decide) ?_
          intro vg25 hg25
          obtain ⟨hg25, og25⟩ := hg25
          have oU26 : fJd (gKn i a) (gB i a) (ig4 3138).toInt (ag4 74) (i 6915).toInt (fun j => ((q 109).getD j 0).toInt) vg25 := fJd_c oT16.2 og25 (congrArg Int32.toInt ((kg15.fi 3138 rfl) : ig15 3138 = ig4 3138)) (congrArg Int32.toInt (((kg15.fi 6915 rfl).trans (kg4.fi 6915 rfl)) : ig15 6915 = i 6915)) (congrArg (fun z : List Int64 => fun j : Nat => (z.getD j 0).toInt) (hGg15.fq 109 rfl : qg15 109 = q 109))
          exact ft_ret mi_k97 (by rfl) (hP vg25 _ _ _ _ hGg15 ⟨trivial, (Or.inr ⟨(tov86 z2.1 z2.2.1.1 z2.2.1.2 z2.2.2), cShf_go (cPl_row og4 (tov93 c9 ktov0)) (cSe_go (t := 2) (by decide) (tov31 w24) oS13 (tov105 c14 z12 ktov0) oU26)⟩)⟩)
        by_cases w27 : (x1 - x1 / 10 * 10).toInt = 3
        ·
          refine ko_eq (x1 := (60, [(2, .int vg11), (0, .ref 0), (1, .int x1)], [.int 3, .ref 97, .ref 49], (0, 0), ks ig15 ag15 qg15 rg15)) (by rw [(kj_eq w27 (by decide) : (x1 - x1 / 10 * 10) = 3)]) ?_
          first | refine ft_go mi_k97 1 61 [(2, .int vg11), (0, .ref 0), (1, .int x1)] [.ref 110, .ref 49] ig15 ag15 qg15 rg15 (by rfl) ?_ | refine ko_steps mi_in97 1 _ (61, [(2, .int vg11), (0, .ref 0), (1, .int x1)], [.ref 110, .ref 49], (0, 0), ks ig15 ag15 qg15 rg15) (by rfl) ?_
          refine ko_callPI mi_k97.1 (pc := 61) (ls := [(2, .int vg11), (0, .ref 0), (1, .int x1)]) (st := [.ref 110, .ref 49]) (h := ks ig15 ag15 qg15 rg15) (i := (.invokevirtual 220, 3, 73, 0, 9, 0, 261)) (mi_k97.2 _ _ (by rfl)) (ft_invS mi_pq73 (by rfl)) (cy := mi_c73) mi_pq73 rfl (ke73_49_110 hGg15.I hGg15.R ) (by decide) ?_
          intro vg28 hg28
          obtain ⟨hg28, og28⟩ := hg28
          have oU29 : fJd (gKn i a) (gB i a) (ig4 3138).toInt (ag4 74) (i 7043).toInt (fun j => ((q 111).getD j 0).toInt) vg28 := fJd_c oT16.2 og28 (congrArg Int32.toInt ((kg15.fi 3138 rfl) : ig15 3138 = ig4 3138)) (congrArg Int32.toInt (((kg15.fi 7043 rfl).trans (kg4.fi 7043 rfl)) : ig15 7043 = i 7043)) (congrArg (fun z : List Int64 => fun j : Nat => (z.getD j 0).toInt) (hGg15.fq 111 rfl : qg15 111 = q 111))
          exact ft_ret mi_k97 (by rfl) (hP vg28 _ _ _ _ hGg15 ⟨trivial, (Or.inr ⟨(tov86 z2.1 z2.2.1.1 z2.2.1.2 z2.2.2), cShf_go (cPl_row og4 (tov93 c9 ktov0)) (cSe_go (t := 3) (by decide) (tov35 w27) oS13 (tov105 c14 z12 ktov0) oU29)⟩)⟩)
        by_cases w30 : (x1 - x1 / 10 * 10).toInt = 4
        ·
          refine ko_eq (x1 := (60, [(2, .int vg11), (0, .ref 0), (1, .int x1)], [.int 4, .ref 97, .ref 49], (0, 0), ks ig15 ag15 qg15 rg15)) (by rw [(kj_eq w30 (by decide) : (x1 - x1 / 10 * 10) = 4)]) ?_
          first | refine ft_go mi_k97 1 61 [(2, .int vg11), (0, .ref 0), (1, .int x1)] [.ref 112, .ref 49] ig15 ag15 qg15 rg15 (by rfl) ?_ | refine ko_steps mi_in97 1 _ (61, [(2, .int vg11), (0, .ref 0), (1, .int x1)], [.ref 112, .ref 49], (0, 0), ks ig15 ag15 qg15 rg15) (by rfl) ?_
          refine ko_callPI mi_k97.1 (pc := 61) (ls := [(2, .int vg11), (0, .ref 0), (1, .int x1)]) (st := [.ref 112, .ref 49]) (h := ks ig15 ag15 qg15 rg15) (i := (.invokevirtual 220, 3, 73, 0, 9, 0, 261)) (mi_k97.2 _ _ (by rfl)) (ft_invS mi_pq73 (by rfl)) (cy := mi_c73) mi_pq73 rfl (ke73_49_112 hGg15.I hGg15.R ) (by decide) ?_
          intro vg31 hg31
          obtain ⟨hg31, og31⟩ := hg31
          have oU32 : fJd (gKn i a) (gB i a) (ig4 3138).toInt (ag4 74) (i 7171).toInt (fun j => ((q 113).getD j 0).toInt) vg31 := fJd_c oT16.2 og31 (congrArg Int32.toInt ((kg15.fi 3138 rfl) : ig15 3138 = ig4 3138)) (congrArg Int32.toInt (((kg15.fi 7171 rfl).trans (kg4.fi 7171 rfl)) : ig15 7171 = i 7171)) (congrArg (fun z : List Int64 => fun j : Nat => (z.getD j 0).toInt) (hGg15.fq 113 rfl : qg15 113 = q 113))
          exact ft_ret mi_k97 (by rfl) (hP vg31 _ _ _ _ hGg15 ⟨trivial, (Or.inr ⟨(tov86 z2.1 z2.2.1.1 z2.2.1.2 z2.2.2), cShf_go (cPl_row og4 (tov93 c9 ktov0)) (cSe_go (t := 4) (by decide) (tov39 w30) oS13 (tov105 c14 z12 ktov0) oU32)⟩)⟩)
        by_cases w33 : (x1 - x1 / 10 * 10).toInt = 5
        ·
          refine ko_eq (x1 := (60, [(2, .int vg11), (0, .ref 0), (1, .int x1)], [.int 5, .ref 97, .ref 49], (0, 0), ks ig15 ag15 qg15 rg15)) (by rw [(kj_eq w33 (by decide) : (x1 - x1 / 10 * 10) = 5)]) ?_
          first | refine ft_go mi_k97 1 61 [(2, .int vg11), (0, .ref 0), (1, .int x1)] [.ref 114, .ref 49] ig15 ag15 qg15 rg15 (by rfl) ?_ | refine ko_steps mi_in97 1 _ (61, [(2, .int vg11), (0, .ref 0), (1, .int x1)], [.ref 114, .ref 49], (0, 0), ks ig15 ag15 qg15 rg15) (by rfl) ?_
          refine ko_callPI mi_k97.1 (pc := 61) (ls := [(2, .int vg11), (0, .ref 0), (1, .int x1)]) (st := [.ref 114, .ref 49]) (h := ks ig15 ag15 qg15 rg15) (i := (.invokevirtual 220, 3, 73, 0, 9, 0, 261)) (mi_k97.2 _ _ (by rfl)) (ft_invS mi_pq73 (by rfl)) (cy := mi_c73) mi_pq73 rfl (ke73_49_114 hGg15.I hGg15.R ) (by decide) ?_
          intro vg34 hg34
          obtain ⟨hg34, og34⟩ := hg34
          have oU35 : fJd (gKn i a) (gB i a) (ig4 3138).toInt (ag4 74) (i 7299).toInt (fun j => ((q 115).getD j 0).toInt) vg34 := fJd_c oT16.2 og34 (congrArg Int32.toInt ((kg15.fi 3138 rfl) : ig15 3138 = ig4 3138)) (congrArg Int32.toInt (((kg15.fi 7299 rfl).trans (kg4.fi 7299 rfl)) : ig15 7299 = i 7299)) (congrArg (fun z : List Int64 => fun j : Nat => (z.getD j 0).toInt) (hGg15.fq 115 rfl : qg15 115 = q 115))
          exact ft_ret mi_k97 (by rfl) (hP vg34 _ _ _ _ hGg15 ⟨trivial, (Or.inr ⟨(tov86 z2.1 z2.2.1.1 z2.2.1.2 z2.2.2), cShf_go (cPl_row og4 (tov93 c9 ktov0)) (cSe_go (t := 5) (by decide) (tov83 w33) oS13 (tov105 c14 z12 ktov0) oU35)⟩)⟩)
        exact (tov106 s10 w18 w21 w24 w27 w30 w33 z2.2.2).elim
      ·
        have c36 : vg11.toInt < (0 : Int32).toInt := kd_leF c; clear c
        first | refine ft_go mi_k97 1 36 [(2, .int vg11), (0, .ref 0), (1, .int x1)] [.int vg11] ig4 ag4 qg4 rg4 (by rfl) ?_ | refine ko_steps mi_in97 1 _ (36, [(2, .int vg11), (0, .ref 0), (1, .int x1)], [.int vg11], (0, 0), ks ig4 ag4 qg4 rg4) (by rfl) ?_
        exact ft_ret mi_k97 (by rfl) (hP vg11 _ _ _ _ hGg4 ⟨trivial, (Or.inr ⟨(tov86 z2.1 z2.2.1.1 z2.2.1.2 z2.2.2), cShf_go (cPl_row og4 (tov93 c9 ktov0)) (Or.inl ⟨(tov87 c36 ktov0), oS13⟩)⟩)⟩)
  ·
    subst eg1
    have z37 : ¬ (((0 : Int) ≤ x1.toInt) ∧ (((0 : Int) ≤ (x1.toInt / 10)) ∧ ((x1.toInt / 10) ≤ 5)) ∧ ((x1.toInt % 10) ≤ 5)) := hg1
    first | refine ft_go mi_k97 2 8 [(0, .ref 0), (1, .int x1)] [.int (-1)] i a q r (by rfl) ?_ | refine ko_steps mi_in97 2 _ (8, [(0, .ref 0), (1, .int x1)], [.int (-1)], (0, 0), ks i a q r) (by rfl) ?_
    exact ft_ret mi_k97 (by rfl) (hP (-1) _ _ _ _ hG ⟨trivial, (Or.inl ⟨(tov107 z37), rfl⟩)⟩)
