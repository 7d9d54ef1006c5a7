set_option maxRecDepth 100000 in
theorem ke162_116 {i : Nat → Int32} {a : Nat → List Int32} {q : Nat → List Int64} {r : Nat → Nat} (hI : kI i a q) (hr : kr r) (x1 : Int32) (hp0 : ((0 : Int) ≤ x1.toInt) ∧ (x1.toInt ≤ 7)) (hE_code : kCode i a) : km 5 162 [.ref 116, .int x1] (ks i a q r) (kVI yw162_116 i a q r (fun v i1 a1 q1 r1 => (True) ∧ v = wLaw (a 120) (a 121) (a 122) (a 123) [(a 117).getD x1.toNatClampNeg 0, (a 129).getD 1 0, (a 117).getD (8 + x1).toNatClampNeg 0, (a 118).getD (9 : Int32).toNatClampNeg 0, (a 118).getD (10 + x1).toNatClampNeg 0, (a 118).getD (8 : Int32).toNatClampNeg 0] (i 7432).toInt.toNat 0)) := by
  have hG := kG_self yw162_116 hI hr
  refine km_ofI (q := (mi_h162, mi_c162)) rfl (by decide) (Nat.le_of_ble_eq_true rfl) ?_
  intro P hP
  refine ft_go mi_k162 6 10 [(0, .ref 116), (1, .int x1)] [.int x1, .ref 117, .int 0, .ref 129] i a q r (by rfl) ?_
  refine ko_iald3 mi_k162.1 (n := 24) (c := 24) (ax := (0, 0, 0, 0, 0)) (mi_k162.2 _ _ (by rfl)) (by rfl) (ksG117 _ _ _ _) (hG.I.2.1 117) rfl (og14 hp0.1) (og71 hp0.2) ?_
  refine ko_iast3 mi_k162.1 (n := 6) (c := 6) (ax := (0, 0, 0, 0, 0)) (mi_k162.2 _ _ (by rfl)) (by rfl) (ksG129 _ _ _ _) (ksA129 _ _ _ _) (hG.I.2.1 129) rfl (og2 kog0) (og72 kog0) ?_
  intro a1 ea1 fa1
  have hJ1 := kG_a3 hG 129 rfl ea1 fa1 (kd_bd _)
  have s2 : (8 + x1).toInt = (8 : Int32).toInt + x1.toInt := kd_add (og73 hp0.1 kog8) (og74 hp0.2 kog8)
  refine ft_go mi_k162 8 25 [(0, .ref 116), (1, .int x1)] [.int (8 + x1), .ref 117, .int 2, .ref 129] i a1 q r (by rfl) ?_
  refine ko_iald3 mi_k162.1 (n := 24) (c := 24) (ax := (0, 0, 0, 0, 0)) (mi_k162.2 _ _ (by rfl)) (by rfl) (ksG117 _ _ _ _) (hJ1.I.2.1 117) rfl (og75 hp0.1 s2 kog8) (og76 hp0.2 s2 kog8) ?_
  refine ko_iast3 mi_k162.1 (n := 6) (c := 6) (ax := (0, 0, 0, 0, 0)) (mi_k162.2 _ _ (by rfl)) (by rfl) (ksG129 _ _ _ _) (ksA129 _ _ _ _) (hJ1.I.2.1 129) rfl (og77 kog2) (og78 kog2) ?_
  intro a3 ea3 fa3
  have hJ3 := kG_a3 hJ1 129 rfl ea3 fa3 (kd_bd _)
  refine ft_go mi_k162 6 38 [(0, .ref 116), (1, .int x1)] [.int 9, .ref 118, .int 3, .ref 129] i a3 q r (by rfl) ?_
  refine ko_iald3 mi_k162.1 (n := 31) (c := 31) (ax := (0, 0, 0, 0, 0)) (mi_k162.2 _ _ (by rfl)) (by rfl) (ksG118 _ _ _ _) (hJ3.I.2.1 118) rfl (og79 kog9) (og80 kog9) ?_
  have u4 : ((a1 118).getD (9 : Int32).toNatClampNeg 0).toInt = ((a 118).getD (9 : Int32).toNatClampNeg 0).toInt := congrArg (fun z : List Int32 => (z.getD (9 : Int32).toNatClampNeg 0).toInt) (fa1 118 (by decide))
  have u5 : ((a3 118).getD (9 : Int32).toNatClampNeg 0).toInt = ((a1 118).getD (9 : Int32).toNatClampNeg 0).toInt := congrArg (fun z : List Int32 => (z.getD (9 : Int32).toNatClampNeg 0).toInt) (fa3 118 (by decide))
  refine ko_iast3 mi_k162.1 (n := 6) (c := 6) (ax := (0, 0, 0, 0, 0)) (mi_k162.2 _ _ (by rfl)) (by rfl) (ksG129 _ _ _ _) (ksA129 _ _ _ _) (hJ3.I.2.1 129) rfl (og81 kog3) (og82 kog3) ?_
  intro a6 ea6 fa6
  have hJ6 := kG_a3 hJ3 129 rfl ea6 fa6 (kd_bd _)
  have s7 : (10 + x1).toInt = (10 : Int32).toInt + x1.toInt := kd_add (og83 hp0.1 kog10) (og84 hp0.2 kog10)
  refine ft_go mi_k162 8 53 [(0, .ref 116), (1, .int x1)] [.int (10 + x1), .ref 118, .int 4, .ref 129] i a6 q r (by rfl) ?_
  refine ko_iald3 mi_k162.1 (n := 31) (c := 31) (ax := (0, 0, 0, 0, 0)) (mi_k162.2 _ _ (by rfl)) (by rfl) (ksG118 _ _ _ _) (hJ6.I.2.1 118) rfl (og85 hp0.1 s7 kog10) (og86 hp0.2 s7 kog10) ?_
  have r8 : (((10 + x1).toInt = 18 → (0 : Int) ≤ ((a6 118).getD (10 + x1).toNatClampNeg 0).toInt ∧ ((a6 118).getD (10 + x1).toNatClampNeg 0).toInt ≤ 5)) ∧ ((19 ≤ (10 + x1).toInt → (10 + x1).toInt ≤ 24 → (0 : Int) ≤ ((a6 118).getD (10 + x1).toNatClampNeg 0).toInt ∧ ((a6 118).getD (10 + x1).toNatClampNeg 0).toInt ≤ 7)) := kE_ncond (p := 118) hJ6.I (by decide) (j := (10 + x1)) (og85 hp0.1 s7 kog10)
  have u9 : ((a1 118).getD (10 + x1).toNatClampNeg 0).toInt = ((a 118).getD (10 + x1).toNatClampNeg 0).toInt := congrArg (fun z : List Int32 => (z.getD (10 + x1).toNatClampNeg 0).toInt) (fa1 118 (by decide))
  have u10 : ((a3 118).getD (10 + x1).toNatClampNeg 0).toInt = ((a1 118).getD (10 + x1).toNatClampNeg 0).toInt := congrArg (fun z : List Int32 => (z.getD (10 + x1).toNatClampNeg 0).toInt) (fa3 118 (by decide))
  have u11 : ((a6 118).getD (10 + x1).toNatClampNeg 0).toInt = ((a3 118).getD (10 + x1).toNatClampNeg 0).toInt := congrArg (fun z : List Int32 => (z.getD (10 + x1).toNatClampNeg 0).toInt) (fa6 118 (by decide))
  refine ko_iast3 mi_k162.1 (n := 6) (c := 6) (ax := (0, 0, 0, 0, 0)) (mi_k162.2 _ _ (by rfl)) (by rfl) (ksG129 _ _ _ _) (ksA129 _ _ _ _) (hJ6.I.2.1 129) rfl (og87 kog4) (og88 kog4) ?_
  intro a12 ea12 fa12
  have hJ12 := kG_a3 hJ6 129 rfl ea12 fa12 (kd_bd _)
  refine ft_go mi_k162 6 66 [(0, .ref 116), (1, .int x1)] [.int 8, .ref 118, .int 5, .ref 129] i a12 q r (by rfl) ?_
  refine ko_iald3 mi_k162.1 (n := 31) (c := 31) (ax := (0, 0, 0, 0, 0)) (mi_k162.2 _ _ (by rfl)) (by rfl) (ksG118 _ _ _ _) (hJ12.I.2.1 118) rfl (og89 kog8) (og90 kog8) ?_
  have u13 : ((a1 118).getD (8 : Int32).toNatClampNeg 0).toInt = ((a 118).getD (8 : Int32).toNatClampNeg 0).toInt := congrArg (fun z : List Int32 => (z.getD (8 : Int32).toNatClampNeg 0).toInt) (fa1 118 (by decide))
  have u14 : ((a3 118).getD (8 : Int32).toNatClampNeg 0).toInt = ((a1 118).getD (8 : Int32).toNatClampNeg 0).toInt := congrArg (fun z : List Int32 => (z.getD (8 : Int32).toNatClampNeg 0).toInt) (fa3 118 (by decide))
  have u15 : ((a6 118).getD (8 : Int32).toNatClampNeg 0).toInt = ((a3 118).getD (8 : Int32).toNatClampNeg 0).toInt := congrArg (fun z : List Int32 => (z.getD (8 : Int32).toNatClampNeg 0).toInt) (fa6 118 (by decide))
  have u16 : ((a12 118).getD (8 : Int32).toNatClampNeg 0).toInt = ((a6 118).getD (8 : Int32).toNatClampNeg 0).toInt := congrArg (fun z : List Int32 => (z.getD (8 : Int32).toNatClampNeg 0).toInt) (fa12 118 (by decide))
  refine ko_iast3 mi_k162.1 (n := 6) (c := 6) (ax := (0, 0, 0, 0, 0)) (mi_k162.2 _ _ (by rfl)) (by rfl) (ksG129 _ _ _ _) (ksA129 _ _ _ _) (hJ12.I.2.1 129) rfl (og91 kog5) (og92 kog5) ?_
  intro a17 ea17 fa17
  have hJ17 := kG_a3 hJ12 129 rfl ea17 fa17 (kd_bd _)
  have qn18 : a17 129 = [((a 117).getD x1.toNatClampNeg 0), (a 129).getD 1 0, ((a1 117).getD (8 + x1).toNatClampNeg 0), ((a3 118).getD (9 : Int32).toNatClampNeg 0), ((a6 118).getD (10 + x1).toNatClampNeg 0), ((a12 118).getD (8 : Int32).toNatClampNeg 0)] := by rw [ea17, ea12, ea6, ea3, ea1]; exact kNam5 (hG.I.2.1 129)
  have qn19 : a17 129 = [(a 117).getD x1.toNatClampNeg 0, (a 129).getD 1 0, (a 117).getD (8 + x1).toNatClampNeg 0, (a 118).getD (9 : Int32).toNatClampNeg 0, (a 118).getD (10 + x1).toNatClampNeg 0, (a 118).getD (8 : Int32).toNatClampNeg 0] := qn18.trans (by first | rfl | (simp only [fa1 117 (by decide), fa3 118 (by decide), fa6 118 (by decide), fa12 118 (by decide), fa1 118 (by decide)]; done) | (simp only [fa1 117 (by decide), fa3 118 (by decide), fa6 118 (by decide), fa12 118 (by decide), fa1 118 (by decide)]; rfl))
  refine ft_go mi_k162 2 70 [(2, .int 0), (0, .ref 116), (1, .int x1)] [] i a17 q r (by rfl) ?_
  have lp20 : ∀ (nz : Nat) (i20 : Nat → Int32) (a20 : Nat → List Int32) (q20 : Nat → List Int64) (r20 : Nat → Nat) (l2_20 : Int32), kG yw162_116_L70 i a17 q r i20 a20 q20 r20 → (0 : Int) ≤ l2_20.toInt → wLaw (a 120) (a 121) (a 122) (a 123) [(a 117).getD x1.toNatClampNeg 0, (a 129).getD 1 0, (a 117).getD (8 + x1).toNatClampNeg 0, (a 118).getD (9 : Int32).toNatClampNeg 0, (a 118).getD (10 + x1).toNatClampNeg 0, (a 118).getD (8 : Int32).toNatClampNeg 0] ((i 7432).toInt - l2_20.toInt).toNat l2_20.toInt.toNat = wLaw (a 120) (a 121) (a 122) (a 123) [(a 117).getD x1.toNatClampNeg 0, (a 129).getD 1 0, (a 117).getD (8 + x1).toNatClampNeg 0, (a 118).getD (9 : Int32).toNatClampNeg 0, (a 118).getD (10 + x1).toNatClampNeg 0, (a 118).getD (8 : Int32).toNatClampNeg 0] (i 7432).toInt.toNat 0 → a20 129 = [(a 117).getD x1.toNatClampNeg 0, (a 129).getD 1 0, (a 117).getD (8 + x1).toNatClampNeg 0, (a 118).getD (9 : Int32).toNatClampNeg 0, (a 118).getD (10 + x1).toNatClampNeg 0, (a 118).getD (8 : Int32).toNatClampNeg 0] → (((i20 7432).toInt - l2_20.toInt)).toNat < nz → ko 5 (mi_h162, mi_c162) P (70, [(2, .int l2_20), (0, .ref 116), (1, .int x1)], [], (0, 0), ks i20 a20 q20 r20) := by
    intro nz
    induction nz with
    | zero =>
      intro _ _ _ _ _ _ _ _ _ hm
      exact absurd hm (Nat.not_lt_zero _)
    | succ nz ih20 =>
      intro i20 a20 q20 r20 l2_20 hL20 p20_0 O20_0 O20_1 hm20
      have fi20_7432 : ((0 : Int) ≤ (i20 7432).toInt) ∧ ((i20 7432).toInt ≤ 60) := hL20.I.1 7432
      have fi_7432 : ((0 : Int) ≤ (i 7432).toInt) ∧ ((i 7432).toInt ≤ 60) := hJ17.I.1 7432
      have efi20_7432 : (i20 7432).toInt = (i 7432).toInt := hL20.ti 7432 rfl
      refine ft_go mi_k162 3 75 [(2, .int l2_20), (0, .ref 116), (1, .int x1)] [.int (i20 7432), .int l2_20] i20 a20 q20 r20 (by rfl) ?_
      refine ft_if mi_k162 (decide ((i20 7432) ≤ l2_20)) 138 78 [(2, .int l2_20), (0, .ref 116), (1, .int x1)] [] (by rfl) (fun c => ?_) (fun c => ?_)
      ·
        have c21 : (i20 7432).toInt ≤ l2_20.toInt := kd_le c; clear c
        have hG22 := kG_call hJ17 hL20 (by decide +kernel)
        refine ft_go mi_k162 1 139 [(2, .int l2_20), (0, .ref 116), (1, .int x1)] [.int 0] i20 a20 q20 r20 (by rfl) ?_
        exact ft_ret mi_k162 (by rfl) (hP 0 _ _ _ _ hG22 ⟨trivial, (show (0 : Int32) = wLaw (a 120) (a 121) (a 122) (a 123) [(a 117).getD x1.toNatClampNeg 0, (a 129).getD 1 0, (a 117).getD (8 + x1).toNatClampNeg 0, (a 118).getD (9 : Int32).toNatClampNeg 0, (a 118).getD (10 + x1).toNatClampNeg 0, (a 118).getD (8 : Int32).toNatClampNeg 0] (i 7432).toInt.toNat 0 from (bl_none O20_0 (og93 c21 efi20_7432)).symm)⟩)
      ·
        have c23 : l2_20.toInt < (i20 7432).toInt := kd_leF c; clear c
        refine ft_go mi_k162 3 83 [(2, .int l2_20), (0, .ref 116), (1, .int x1)] [.int l2_20, .ref 121] i20 a20 q20 r20 (by rfl) ?_
        refine ko_iald3 mi_k162.1 (n := 60) (c := 60) (ax := (0, 0, 0, 0, 0)) (mi_k162.2 _ _ (by rfl)) (by rfl) (ksG121 _ _ _ _) (hL20.I.2.1 121) rfl (og14 p20_0) (og94 c23 fi20_7432.2) ?_
        refine ft_go mi_k162 3 89 [(2, .int l2_20), (0, .ref 116), (1, .int x1)] [.int l2_20, .ref 120, .int ((a20 121).getD l2_20.toNatClampNeg 0)] i20 a20 q20 r20 (by rfl) ?_
        refine ko_iald3 mi_k162.1 (n := 60) (c := 60) (ax := (0, 0, 0, 0, 0)) (mi_k162.2 _ _ (by rfl)) (by rfl) (ksG120 _ _ _ _) (hL20.I.2.1 120) rfl (og14 p20_0) (og94 c23 fi20_7432.2) ?_
        refine ft_if mi_k162 (decide (((a20 121).getD l2_20.toNatClampNeg 0) ≤ ((a20 120).getD l2_20.toNatClampNeg 0))) 115 93 [(2, .int l2_20), (0, .ref 116), (1, .int x1)] [] (by rfl) (fun c => ?_) (fun c => ?_)
        ·
          have c24 : ((a20 121).getD l2_20.toNatClampNeg 0).toInt ≤ ((a20 120).getD l2_20.toNatClampNeg 0).toInt := kd_le c; clear c
          have hG25 := kG_call hJ17 hL20 (by decide +kernel)
          refine ft_go mi_k162 4 121 [(2, .int l2_20), (0, .ref 116), (1, .int x1)] [.int l2_20, .ref 121, .ref 116] i20 a20 q20 r20 (by rfl) ?_
          refine ko_iald3 mi_k162.1 (n := 60) (c := 60) (ax := (0, 0, 0, 0, 0)) (mi_k162.2 _ _ (by rfl)) (by rfl) (ksG121 _ _ _ _) (hG25.I.2.1 121) rfl (og14 p20_0) (og94 c23 fi20_7432.2) ?_
          refine ft_go mi_k162 3 127 [(2, .int l2_20), (0, .ref 116), (1, .int x1)] [.int l2_20, .ref 122, .int ((a20 121).getD l2_20.toNatClampNeg 0), .ref 116] i20 a20 q20 r20 (by rfl) ?_
          refine ko_iald3 mi_k162.1 (n := 60) (c := 60) (ax := (0, 0, 0, 0, 0)) (mi_k162.2 _ _ (by rfl)) (by rfl) (ksG122 _ _ _ _) (hG25.I.2.1 122) rfl (og14 p20_0) (og94 c23 fi20_7432.2) ?_
          refine ko_callI mi_k162.1 (pc := 128) (ls := [(2, .int l2_20), (0, .ref 116), (1, .int x1)]) (st := [.int ((a20 122).getD l2_20.toNatClampNeg 0), .int ((a20 121).getD l2_20.toNatClampNeg 0), .ref 116]) (h := ks i20 a20 q20 r20) (i := (.invokevirtual 224, 3, 161, 0, 9, 0, 420)) (mi_k162.2 _ _ (by rfl)) (ft_invS mi_pq161 (by rfl)) (cy := mi_c161) mi_pq161 rfl (ke161_116 hG25.I hG25.R ((a20 121).getD l2_20.toNatClampNeg 0) ((a20 122).getD l2_20.toNatClampNeg 0) (kCode_l2 (kCode_of (i1 := i20) hE_code (hG25.fi 7432 rfl) (hG25.fa 120 rfl) (hG25.fa 121 rfl) (hG25.fa 122 rfl) (hG25.fa 123 rfl)) (og14 p20_0) (og8 c23))) (by decide) ?_
          intro vg26 ig26 ag26 qg26 rg26 kg26 hg26
          have hGg26 := kG_call hG25 kg26 (by decide +kernel)
          obtain ⟨hg26, og26⟩ := hg26
          have q27 : vg26 = wVal (a20 123) (a20 129) ((a20 121).getD l2_20.toNatClampNeg 0) ((a20 122).getD l2_20.toNatClampNeg 0) := og26
          exact ft_ret mi_k162 (by rfl) (hP vg26 _ _ _ _ hGg26 ⟨trivial, (show vg26 = wLaw (a 120) (a 121) (a 122) (a 123) [(a 117).getD x1.toNatClampNeg 0, (a 129).getD 1 0, (a 117).getD (8 + x1).toNatClampNeg 0, (a 118).getD (9 : Int32).toNatClampNeg 0, (a 118).getD (10 + x1).toNatClampNeg 0, (a 118).getD (8 : Int32).toNatClampNeg 0] (i 7432).toInt.toNat 0 from (bl_say0 O20_0 (kj_lines (og95 c23 efi20_7432) (og14 p20_0)) (og14 p20_0) ((((((hL20.fa 120 rfl).trans (fa17 120 (by decide))).trans (fa12 120 (by decide))).trans (fa6 120 (by decide))).trans (fa3 120 (by decide))).trans (fa1 120 (by decide))) ((((((hL20.fa 121 rfl).trans (fa17 121 (by decide))).trans (fa12 121 (by decide))).trans (fa6 121 (by decide))).trans (fa3 121 (by decide))).trans (fa1 121 (by decide))) (og23 c24) ((((((hL20.fa 121 rfl).trans (fa17 121 (by decide))).trans (fa12 121 (by decide))).trans (fa6 121 (by decide))).trans (fa3 121 (by decide))).trans (fa1 121 (by decide))) ((((((hL20.fa 122 rfl).trans (fa17 122 (by decide))).trans (fa12 122 (by decide))).trans (fa6 122 (by decide))).trans (fa3 122 (by decide))).trans (fa1 122 (by decide))) (by have hq := og26; rw [(((((((hL20.fa 123 rfl).trans (fa17 123 (by decide))).trans (fa12 123 (by decide))).trans (fa6 123 (by decide))).trans (fa3 123 (by decide))).trans (fa1 123 (by decide))) : a20 123 = a 123), (O20_1 : a20 129 = [(a 117).getD x1.toNatClampNeg 0, (a 129).getD 1 0, (a 117).getD (8 + x1).toNatClampNeg 0, (a 118).getD (9 : Int32).toNatClampNeg 0, (a 118).getD (10 + x1).toNatClampNeg 0, (a 118).getD (8 : Int32).toNatClampNeg 0])] at hq; exact hq)).symm)⟩)
        ·
          have c28 : ((a20 120).getD l2_20.toNatClampNeg 0).toInt < ((a20 121).getD l2_20.toNatClampNeg 0).toInt := kd_leF c; clear c
          refine ft_go mi_k162 4 99 [(2, .int l2_20), (0, .ref 116), (1, .int x1)] [.int l2_20, .ref 120, .ref 116] i20 a20 q20 r20 (by rfl) ?_
          refine ko_iald3 mi_k162.1 (n := 60) (c := 60) (ax := (0, 0, 0, 0, 0)) (mi_k162.2 _ _ (by rfl)) (by rfl) (ksG120 _ _ _ _) (hL20.I.2.1 120) rfl (og14 p20_0) (og94 c23 fi20_7432.2) ?_
          refine ft_go mi_k162 3 105 [(2, .int l2_20), (0, .ref 116), (1, .int x1)] [.int l2_20, .ref 121, .int ((a20 120).getD l2_20.toNatClampNeg 0), .ref 116] i20 a20 q20 r20 (by rfl) ?_
          refine ko_iald3 mi_k162.1 (n := 60) (c := 60) (ax := (0, 0, 0, 0, 0)) (mi_k162.2 _ _ (by rfl)) (by rfl) (ksG121 _ _ _ _) (hL20.I.2.1 121) rfl (og14 p20_0) (og94 c23 fi20_7432.2) ?_
          have hG29 := kG_call hJ17 hL20 (by decide +kernel)
          refine ko_callI mi_k162.1 (pc := 106) (ls := [(2, .int l2_20), (0, .ref 116), (1, .int x1)]) (st := [.int ((a20 121).getD l2_20.toNatClampNeg 0), .int ((a20 120).getD l2_20.toNatClampNeg 0), .ref 116]) (h := ks i20 a20 q20 r20) (i := (.invokevirtual 224, 3, 161, 0, 9, 0, 420)) (mi_k162.2 _ _ (by rfl)) (ft_invS mi_pq161 (by rfl)) (cy := mi_c161) mi_pq161 rfl (ke161_116 hL20.I hL20.R ((a20 120).getD l2_20.toNatClampNeg 0) ((a20 121).getD l2_20.toNatClampNeg 0) (kCode_l1 (kCode_of (i1 := i20) hE_code (hG29.fi 7432 rfl) (hG29.fa 120 rfl) (hG29.fa 121 rfl) (hG29.fa 122 rfl) (hG29.fa 123 rfl)) (og14 p20_0) (og8 c23) (og8 c28))) (by decide) ?_
          intro vg30 ig30 ag30 qg30 rg30 kg30 hg30
          have hGg30 := kG_call hL20 kg30 (by decide +kernel)
          obtain ⟨hg30, og30⟩ := hg30
          have q31 : vg30 = wVal (a20 123) (a20 129) ((a20 120).getD l2_20.toNatClampNeg 0) ((a20 121).getD l2_20.toNatClampNeg 0) := og30
          refine ft_if mi_k162 (vg30 != 0) 115 112 [(2, .int l2_20), (0, .ref 116), (1, .int x1)] [] (by rfl) (fun c => ?_) (fun c => ?_)
          ·
            have c32 : vg30.toInt ≠ (0 : Int32).toInt := kd_ne c; clear c
            have hG33 := kG_call hJ17 hGg30 (by decide +kernel)
            refine ft_go mi_k162 4 121 [(2, .int l2_20), (0, .ref 116), (1, .int x1)] [.int l2_20, .ref 121, .ref 116] ig30 ag30 qg30 rg30 (by rfl) ?_
            refine ko_iald3 mi_k162.1 (n := 60) (c := 60) (ax := (0, 0, 0, 0, 0)) (mi_k162.2 _ _ (by rfl)) (by rfl) (ksG121 _ _ _ _) (hG33.I.2.1 121) rfl (og14 p20_0) (og94 c23 fi20_7432.2) ?_
            refine ft_go mi_k162 3 127 [(2, .int l2_20), (0, .ref 116), (1, .int x1)] [.int l2_20, .ref 122, .int ((ag30 121).getD l2_20.toNatClampNeg 0), .ref 116] ig30 ag30 qg30 rg30 (by rfl) ?_
            refine ko_iald3 mi_k162.1 (n := 60) (c := 60) (ax := (0, 0, 0, 0, 0)) (mi_k162.2 _ _ (by rfl)) (by rfl) (ksG122 _ _ _ _) (hG33.I.2.1 122) rfl (og14 p20_0) (og94 c23 fi20_7432.2) ?_
            have fig30_7432 : ((0 : Int) ≤ (ig30 7432).toInt) ∧ ((ig30 7432).toInt ≤ 60) := hG33.I.1 7432
            have efig30_7432 : (ig30 7432).toInt = (i20 7432).toInt := kg30.ti 7432 rfl
            refine ko_callI mi_k162.1 (pc := 128) (ls := [(2, .int l2_20), (0, .ref 116), (1, .int x1)]) (st := [.int ((ag30 122).getD l2_20.toNatClampNeg 0), .int ((ag30 121).getD l2_20.toNatClampNeg 0), .ref 116]) (h := ks ig30 ag30 qg30 rg30) (i := (.invokevirtual 224, 3, 161, 0, 9, 0, 420)) (mi_k162.2 _ _ (by rfl)) (ft_invS mi_pq161 (by rfl)) (cy := mi_c161) mi_pq161 rfl (ke161_116 hG33.I hG33.R ((ag30 121).getD l2_20.toNatClampNeg 0) ((ag30 122).getD l2_20.toNatClampNeg 0) (kCode_l2 (kCode_of (i1 := ig30) hE_code (hG33.fi 7432 rfl) (hG33.fa 120 rfl) (hG33.fa 121 rfl) (hG33.fa 122 rfl) (hG33.fa 123 rfl)) (og14 p20_0) (og96 c23 efig30_7432))) (by decide) ?_
            intro vg34 ig34 ag34 qg34 rg34 kg34 hg34
            have hGg34 := kG_call hG33 kg34 (by decide +kernel)
            obtain ⟨hg34, og34⟩ := hg34
            have q35 : vg34 = wVal (ag30 123) (ag30 129) ((ag30 121).getD l2_20.toNatClampNeg 0) ((ag30 122).getD l2_20.toNatClampNeg 0) := og34
            exact ft_ret mi_k162 (by rfl) (hP vg34 _ _ _ _ hGg34 ⟨trivial, (show vg34 = wLaw (a 120) (a 121) (a 122) (a 123) [(a 117).getD x1.toNatClampNeg 0, (a 129).getD 1 0, (a 117).getD (8 + x1).toNatClampNeg 0, (a 118).getD (9 : Int32).toNatClampNeg 0, (a 118).getD (10 + x1).toNatClampNeg 0, (a 118).getD (8 : Int32).toNatClampNeg 0] (i 7432).toInt.toNat 0 from (bl_say1 O20_0 (kj_lines (og95 c23 efi20_7432) (og14 p20_0)) (og14 p20_0) ((((((hL20.fa 120 rfl).trans (fa17 120 (by decide))).trans (fa12 120 (by decide))).trans (fa6 120 (by decide))).trans (fa3 120 (by decide))).trans (fa1 120 (by decide))) ((((((hL20.fa 121 rfl).trans (fa17 121 (by decide))).trans (fa12 121 (by decide))).trans (fa6 121 (by decide))).trans (fa3 121 (by decide))).trans (fa1 121 (by decide))) (by have hq := og30; rw [(((((((hL20.fa 123 rfl).trans (fa17 123 (by decide))).trans (fa12 123 (by decide))).trans (fa6 123 (by decide))).trans (fa3 123 (by decide))).trans (fa1 123 (by decide))) : a20 123 = a 123), (O20_1 : a20 129 = [(a 117).getD x1.toNatClampNeg 0, (a 129).getD 1 0, (a 117).getD (8 + x1).toNatClampNeg 0, (a 118).getD (9 : Int32).toNatClampNeg 0, (a 118).getD (10 + x1).toNatClampNeg 0, (a 118).getD (8 : Int32).toNatClampNeg 0])] at hq; exact hq) (og0 c32 kog0) (((((((kg30.fa 121 rfl).trans (hL20.fa 121 rfl)).trans (fa17 121 (by decide))).trans (fa12 121 (by decide))).trans (fa6 121 (by decide))).trans (fa3 121 (by decide))).trans (fa1 121 (by decide))) (((((((kg30.fa 122 rfl).trans (hL20.fa 122 rfl)).trans (fa17 122 (by decide))).trans (fa12 122 (by decide))).trans (fa6 122 (by decide))).trans (fa3 122 (by decide))).trans (fa1 122 (by decide))) (by have hq := og34; rw [((((((((kg30.fa 123 rfl).trans (hL20.fa 123 rfl)).trans (fa17 123 (by decide))).trans (fa12 123 (by decide))).trans (fa6 123 (by decide))).trans (fa3 123 (by decide))).trans (fa1 123 (by decide))) : ag30 123 = a 123), ((by simp only [kg30.fa 129 rfl, O20_1]) : ag30 129 = [(a 117).getD x1.toNatClampNeg 0, (a 129).getD 1 0, (a 117).getD (8 + x1).toNatClampNeg 0, (a 118).getD (9 : Int32).toNatClampNeg 0, (a 118).getD (10 + x1).toNatClampNeg 0, (a 118).getD (8 : Int32).toNatClampNeg 0])] at hq; exact hq)).symm)⟩)
          ·
            have c36 : vg30.toInt = (0 : Int32).toInt := kd_neF c; clear c
            have s37 : (l2_20 + 1).toInt = l2_20.toInt + (1 : Int32).toInt := kd_add (og9 p20_0 kog1) (og97 c23 fi20_7432.2 kog1)
            refine ft_go mi_k162 3 70 [(2, .int (l2_20 + 1)), (0, .ref 116), (1, .int x1)] [] ig30 ag30 qg30 rg30 (by rfl) ?_
            have fig30_7432 : ((0 : Int) ≤ (ig30 7432).toInt) ∧ ((ig30 7432).toInt ≤ 60) := hGg30.I.1 7432
            have efig30_7432 : (ig30 7432).toInt = (i20 7432).toInt := kg30.ti 7432 rfl
            exact ih20 _ _ _ _ _ hGg30 (og98 p20_0 s37 kog1) (bl_next O20_0 (kj_lines (og95 c23 efi20_7432) (og14 p20_0)) (og14 p20_0) (og22 s37 kog1) ((((((hL20.fa 120 rfl).trans (fa17 120 (by decide))).trans (fa12 120 (by decide))).trans (fa6 120 (by decide))).trans (fa3 120 (by decide))).trans (fa1 120 (by decide))) ((((((hL20.fa 121 rfl).trans (fa17 121 (by decide))).trans (fa12 121 (by decide))).trans (fa6 121 (by decide))).trans (fa3 121 (by decide))).trans (fa1 121 (by decide))) (og8 c28) (by have hq := og30; rw [(((((((hL20.fa 123 rfl).trans (fa17 123 (by decide))).trans (fa12 123 (by decide))).trans (fa6 123 (by decide))).trans (fa3 123 (by decide))).trans (fa1 123 (by decide))) : a20 123 = a 123), (O20_1 : a20 129 = [(a 117).getD x1.toNatClampNeg 0, (a 129).getD 1 0, (a 117).getD (8 + x1).toNatClampNeg 0, (a 118).getD (9 : Int32).toNatClampNeg 0, (a 118).getD (10 + x1).toNatClampNeg 0, (a 118).getD (8 : Int32).toNatClampNeg 0])] at hq; exact hq) (og41 c36 kog0) rfl) (by first | rfl | (simp only [kg30.fa 129 rfl, O20_1, sMn, sMx]; done) | (simp only [kg30.fa 129 rfl, O20_1, sMn, sMx]; rfl)) (kj_meas (og99 efig30_7432 s37 kog1) (og28 c23) hm20)
  exact lp20 _ _ _ _ _ _ (kG_self _ hJ17.I hJ17.R) (og2 kog0) (by rw [kog0, Int.sub_zero]; rfl) (by first | rfl | (simp only [qn19, sMn, sMx]; done) | (simp only [qn19, sMn, sMx]; rfl)) (Nat.lt_succ_self _)
def yw163_116 : kW := ([], [128, 129], [], [])
