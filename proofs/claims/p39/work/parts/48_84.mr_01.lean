set_option maxRecDepth 100000 in
theorem ke144_116 {i : Nat → Int32} {a : Nat → List Int32} {q : Nat → List Int64} {r : Nat → Nat} (hI : kI i a q) (hr : kr r) (hp0 : (i 7453).toInt ≤ (i 7452).toInt) (hE_chg : kChg i a) : km 3 144 [.ref 116] (ks i a q r) (kVI yw144_116 i a q r (fun v i1 a1 q1 r1 => ((i1 7453).toInt ≤ (i1 7452).toInt) ∧ (v = (rUndo (a 118, a 117, i 7426, i 7427) (a 133, i 7452, i 7453)).1 ∧ a1 118 = ((rUndo (a 118, a 117, i 7426, i 7427) (a 133, i 7452, i 7453)).2.1).1 ∧ a1 117 = ((rUndo (a 118, a 117, i 7426, i 7427) (a 133, i 7452, i 7453)).2.1).2.1 ∧ i1 7426 = ((rUndo (a 118, a 117, i 7426, i 7427) (a 133, i 7452, i 7453)).2.1).2.2.1 ∧ i1 7427 = ((rUndo (a 118, a 117, i 7426, i 7427) (a 133, i 7452, i 7453)).2.1).2.2.2 ∧ a1 133 = ((rUndo (a 118, a 117, i 7426, i 7427) (a 133, i 7452, i 7453)).2.2).1 ∧ i1 7452 = ((rUndo (a 118, a 117, i 7426, i 7427) (a 133, i 7452, i 7453)).2.2).2.1 ∧ i1 7453 = ((rUndo (a 118, a 117, i 7426, i 7427) (a 133, i 7452, i 7453)).2.2).2.2))) := by
  have hG := kG_self yw144_116 hI hr
  refine km_ofI (q := (mi_h144, mi_c144)) rfl (by decide) (Nat.le_of_ble_eq_true rfl) ?_
  intro P hP
  have fi_7453 : ((0 : Int) ≤ (i 7453).toInt) ∧ ((i 7453).toInt ≤ 40) := hG.I.1 7453
  have fi_7452 : ((0 : Int) ≤ (i 7452).toInt) ∧ ((i 7452).toInt ≤ 40) := hG.I.1 7452
  refine ft_go mi_k144 2 4 [(0, .ref 116)] [.int (i 7453)] i a q r (by rfl) ?_
  refine ft_if mi_k144 ((i 7453) != 0) 10 7 [(0, .ref 116)] [] (by rfl) (fun c => ?_) (fun c => ?_)
  ·
    have c1 : (i 7453).toInt ≠ (0 : Int32).toInt := kd_ne c; clear c
    have s2 : ((i 7453) - 1).toInt = (i 7453).toInt - (1 : Int32).toInt := kd_sub (orm62 fi_7453.1 korm1) (orm116 fi_7453.2 korm1)
    have hJ3 := kG_i hG 7453 rfl (v := ((i 7453) - 1)) ⟨(orm246 c1 fi_7453.1 s2 korm0 korm1), (orm118 fi_7453.2 s2 korm1)⟩
    have s4 : (4 * ((i 7453) - 1)).toInt = 4 * ((i 7453) - 1).toInt := kd_cmul 4 korm4 (orm119 fi_7453.1 s2 korm1) (orm120 fi_7453.2 s2 korm1)
    refine ft_go mi_k144 13 31 [(0, .ref 116)] [.int (4 * ((i 7453) - 1)), .ref 133, .ref 116] (ku i 7453 ((i 7453) - 1)) a q r (by rfl) ?_
    refine ko_iald3 mi_k144.1 (n := 160) (c := 160) (ax := (0, 0, 0, 0, 0)) (mi_k144.2 _ _ (by rfl)) (by rfl) (ksG133 _ _ _ _) (hJ3.I.2.1 133) rfl (orm247 c1 fi_7453.1 s2 s4 korm0 korm1) (orm122 fi_7453.2 s2 s4 korm1) ?_
    have r5 : ((((4 * ((i 7453) - 1)).toInt % 4) = 0 → (0 : Int) ≤ ((a 133).getD (4 * ((i 7453) - 1)).toNatClampNeg 0).toInt ∧ ((a 133).getD (4 * ((i 7453) - 1)).toNatClampNeg 0).toInt ≤ 7)) ∧ ((((4 * ((i 7453) - 1)).toInt % 4) = 1 → (0 : Int) ≤ ((a 133).getD (4 * ((i 7453) - 1)).toNatClampNeg 0).toInt ∧ ((a 133).getD (4 * ((i 7453) - 1)).toNatClampNeg 0).toInt ≤ 6)) := kE_ccond hJ3.I (j := (4 * ((i 7453) - 1))) (orm247 c1 fi_7453.1 s2 s4 korm0 korm1)
    have s6 : ((4 * ((i 7453) - 1)) + 1).toInt = (4 * ((i 7453) - 1)).toInt + (1 : Int32).toInt := kd_add (orm248 c1 fi_7453.1 s2 s4 korm0 korm1) (orm124 fi_7453.2 s2 s4 korm1)
    refine ft_go mi_k144 8 44 [(0, .ref 116)] [.int ((4 * ((i 7453) - 1)) + 1), .ref 133, .int ((a 133).getD (4 * ((i 7453) - 1)).toNatClampNeg 0), .ref 116] (ku i 7453 ((i 7453) - 1)) a q r (by rfl) ?_
    refine ko_iald3 mi_k144.1 (n := 160) (c := 160) (ax := (0, 0, 0, 0, 0)) (mi_k144.2 _ _ (by rfl)) (by rfl) (ksG133 _ _ _ _) (hJ3.I.2.1 133) rfl (orm249 c1 fi_7453.1 s2 s4 s6 korm0 korm1) (orm126 fi_7453.2 s2 s4 s6 korm1) ?_
    have r7 : (((((4 * ((i 7453) - 1)) + 1).toInt % 4) = 0 → (0 : Int) ≤ ((a 133).getD ((4 * ((i 7453) - 1)) + 1).toNatClampNeg 0).toInt ∧ ((a 133).getD ((4 * ((i 7453) - 1)) + 1).toNatClampNeg 0).toInt ≤ 7)) ∧ (((((4 * ((i 7453) - 1)) + 1).toInt % 4) = 1 → (0 : Int) ≤ ((a 133).getD ((4 * ((i 7453) - 1)) + 1).toNatClampNeg 0).toInt ∧ ((a 133).getD ((4 * ((i 7453) - 1)) + 1).toNatClampNeg 0).toInt ≤ 6)) := kE_ccond hJ3.I (j := ((4 * ((i 7453) - 1)) + 1)) (orm249 c1 fi_7453.1 s2 s4 s6 korm0 korm1)
    have s8 : ((4 * ((i 7453) - 1)) + 2).toInt = (4 * ((i 7453) - 1)).toInt + (2 : Int32).toInt := kd_add (orm250 c1 fi_7453.1 s2 s4 korm0 korm1 korm2) (orm129 fi_7453.2 s2 s4 korm1 korm2)
    refine ft_go mi_k144 8 57 [(0, .ref 116)] [.int ((4 * ((i 7453) - 1)) + 2), .ref 133, .int ((a 133).getD ((4 * ((i 7453) - 1)) + 1).toNatClampNeg 0), .int ((a 133).getD (4 * ((i 7453) - 1)).toNatClampNeg 0), .ref 116] (ku i 7453 ((i 7453) - 1)) a q r (by rfl) ?_
    refine ko_iald3 mi_k144.1 (n := 160) (c := 160) (ax := (0, 0, 0, 0, 0)) (mi_k144.2 _ _ (by rfl)) (by rfl) (ksG133 _ _ _ _) (hJ3.I.2.1 133) rfl (orm251 c1 fi_7453.1 s2 s4 s8 korm0 korm1 korm2) (orm131 fi_7453.2 s2 s4 s8 korm1 korm2) ?_
    have r9 : (((((4 * ((i 7453) - 1)) + 2).toInt % 4) = 0 → (0 : Int) ≤ ((a 133).getD ((4 * ((i 7453) - 1)) + 2).toNatClampNeg 0).toInt ∧ ((a 133).getD ((4 * ((i 7453) - 1)) + 2).toNatClampNeg 0).toInt ≤ 7)) ∧ (((((4 * ((i 7453) - 1)) + 2).toInt % 4) = 1 → (0 : Int) ≤ ((a 133).getD ((4 * ((i 7453) - 1)) + 2).toNatClampNeg 0).toInt ∧ ((a 133).getD ((4 * ((i 7453) - 1)) + 2).toNatClampNeg 0).toInt ≤ 6)) := kE_ccond hJ3.I (j := ((4 * ((i 7453) - 1)) + 2)) (orm251 c1 fi_7453.1 s2 s4 s8 korm0 korm1 korm2)
    have cn10 : ((0 : Int) ≤ ((a 133).getD (4 * ((i 7453) - 1)).toNatClampNeg 0).toInt) ∧ (((a 133).getD (4 * ((i 7453) - 1)).toNatClampNeg 0).toInt ≤ 7) := kE_cn hJ3.I (d := ((i 7453) - 1)) (orm252 c1 fi_7453.1 s2 s4 korm0 korm1) (orm108 s4)
    have cw11 : ((0 : Int) ≤ ((a 133).getD ((4 * ((i 7453) - 1)) + 1).toNatClampNeg 0).toInt) ∧ (((a 133).getD ((4 * ((i 7453) - 1)) + 1).toNatClampNeg 0).toInt ≤ 6) := kE_cw hJ3.I (d := ((i 7453) - 1)) (orm252 c1 fi_7453.1 s2 s4 korm0 korm1) (orm109 s4 s6 korm1)
    have ch12 : (((a 133).getD ((4 * ((i 7453) - 1)) + 1).toNatClampNeg 0).toInt = 4 → (1 : Int) ≤ ((a 133).getD ((4 * ((i 7453) - 1)) + 2).toNatClampNeg 0).toInt ∧ ((a 133).getD ((4 * ((i 7453) - 1)) + 2).toNatClampNeg 0).toInt ≤ 5) := kChL_u (kChg_of (i1 := ku i 7453 ((i 7453) - 1)) hE_chg (hJ3.fa 133 rfl)) (d := ((i 7453) - 1)) (orm252 c1 fi_7453.1 s2 s4 korm0 korm1) (orm109 s4 s6 korm1) (orm110 s4 s8 korm2)
    refine ko_callN mi_k144.1 (pc := 58) (ls := [(0, .ref 116)]) (st := [.int ((a 133).getD ((4 * ((i 7453) - 1)) + 2).toNatClampNeg 0), .int ((a 133).getD ((4 * ((i 7453) - 1)) + 1).toNatClampNeg 0), .int ((a 133).getD (4 * ((i 7453) - 1)).toNatClampNeg 0), .ref 116]) (h := ks (ku i 7453 ((i 7453) - 1)) a q r) (i := (.invokevirtual 150, 3, 141, 0, 9, 0, 390)) (mi_k144.2 _ _ (by rfl)) (ft_invS mi_pq141 (by rfl)) (cy := mi_c141) mi_pq141 rfl (ke141_116 hJ3.I hJ3.R ((a 133).getD (4 * ((i 7453) - 1)).toNatClampNeg 0) ((a 133).getD ((4 * ((i 7453) - 1)) + 1).toNatClampNeg 0) ((a 133).getD ((4 * ((i 7453) - 1)) + 2).toNatClampNeg 0) (orm253 cn10.1 cn10.2) (orm254 cw11.1 cw11.2) (orm255 ch12)) (by decide) ?_
    intro ig13 ag13 qg13 rg13 kg13 hg13
    have hGg13 := kG_call hJ3 kg13 (by decide +kernel)
    obtain ⟨hg13, og13⟩ := hg13
    have q14 : ag13 118 = (rSet ((a 133).getD (4 * ((i 7453) - 1)).toNatClampNeg 0) ((a 133).getD ((4 * ((i 7453) - 1)) + 1).toNatClampNeg 0) ((a 133).getD ((4 * ((i 7453) - 1)) + 2).toNatClampNeg 0) (a 118, a 117, i 7426, i 7427)).1 := og13.1
    have q15 : ag13 117 = (rSet ((a 133).getD (4 * ((i 7453) - 1)).toNatClampNeg 0) ((a 133).getD ((4 * ((i 7453) - 1)) + 1).toNatClampNeg 0) ((a 133).getD ((4 * ((i 7453) - 1)) + 2).toNatClampNeg 0) (a 118, a 117, i 7426, i 7427)).2.1 := og13.2.1
    have q16 : ig13 7426 = (rSet ((a 133).getD (4 * ((i 7453) - 1)).toNatClampNeg 0) ((a 133).getD ((4 * ((i 7453) - 1)) + 1).toNatClampNeg 0) ((a 133).getD ((4 * ((i 7453) - 1)) + 2).toNatClampNeg 0) (a 118, a 117, i 7426, i 7427)).2.2.1 := og13.2.2.1
    have q17 : ig13 7427 = (rSet ((a 133).getD (4 * ((i 7453) - 1)).toNatClampNeg 0) ((a 133).getD ((4 * ((i 7453) - 1)) + 1).toNatClampNeg 0) ((a 133).getD ((4 * ((i 7453) - 1)) + 2).toNatClampNeg 0) (a 118, a 117, i 7426, i 7427)).2.2.2 := og13.2.2.2
    have fig13_7453 : ((0 : Int) ≤ (ig13 7453).toInt) ∧ ((ig13 7453).toInt ≤ 40) := hGg13.I.1 7453
    have efig13_7453 : (ig13 7453).toInt = ((i 7453) - 1).toInt := kg13.ti 7453 rfl
    refine ft_go mi_k144 2 65 [(0, .ref 116)] [.int (ig13 7453)] ig13 ag13 qg13 rg13 (by rfl) ?_
    have fig13_7452 : ((0 : Int) ≤ (ig13 7452).toInt) ∧ ((ig13 7452).toInt ≤ 40) := hGg13.I.1 7452
    have efig13_7452 : (ig13 7452).toInt = (i 7452).toInt := kg13.ti 7452 rfl
    have bw18 : ¬ ((i 7453).toInt = 0) := (orm257 c1 fi_7453.1 s2 s4 korm0 korm1)
    exact ft_ret mi_k144 (by rfl) (hP (ig13 7453) _ _ _ _ hGg13 ⟨(orm256 efig13_7452 efig13_7453 hp0 s2 korm1), ⟨(show (ig13 7453) = (rUndo (a 118, a 117, i 7426, i 7427) (a 133, i 7452, i 7453)).1 from (by unfold rUndo; simp only [if_neg bw18]; first | done | rfl | (simp only [(show ig13 7453 = ((i 7453) - 1) from kg13.fi 7453 rfl), sMn, sMx]; done) | (simp only [(show ig13 7453 = ((i 7453) - 1) from kg13.fi 7453 rfl), sMn, sMx]; rfl))), (show ag13 118 = ((rUndo (a 118, a 117, i 7426, i 7427) (a 133, i 7452, i 7453)).2.1).1 from (by unfold rUndo; simp only [if_neg bw18]; first | done | rfl | (simp only [q14, sMn, sMx]; done) | (simp only [q14, sMn, sMx]; rfl))), (show ag13 117 = ((rUndo (a 118, a 117, i 7426, i 7427) (a 133, i 7452, i 7453)).2.1).2.1 from (by unfold rUndo; simp only [if_neg bw18]; first | done | rfl | (simp only [q15, sMn, sMx]; done) | (simp only [q15, sMn, sMx]; rfl))), (show ig13 7426 = ((rUndo (a 118, a 117, i 7426, i 7427) (a 133, i 7452, i 7453)).2.1).2.2.1 from (by unfold rUndo; simp only [if_neg bw18]; first | done | rfl | (simp only [q16, sMn, sMx]; done) | (simp only [q16, sMn, sMx]; rfl))), (show ig13 7427 = ((rUndo (a 118, a 117, i 7426, i 7427) (a 133, i 7452, i 7453)).2.1).2.2.2 from (by unfold rUndo; simp only [if_neg bw18]; first | done | rfl | (simp only [q17, sMn, sMx]; done) | (simp only [q17, sMn, sMx]; rfl))), (show ag13 133 = ((rUndo (a 118, a 117, i 7426, i 7427) (a 133, i 7452, i 7453)).2.2).1 from (by unfold rUndo; simp only [if_neg bw18]; first | done | rfl | (simp only [kg13.fa 133 rfl, sMn, sMx]; done) | (simp only [kg13.fa 133 rfl, sMn, sMx]; rfl))), (show ig13 7452 = ((rUndo (a 118, a 117, i 7426, i 7427) (a 133, i 7452, i 7453)).2.2).2.1 from (by unfold rUndo; simp only [if_neg bw18]; first | done | rfl | (simp only [(show ig13 7452 = i 7452 from kg13.fi 7452 rfl), sMn, sMx]; done) | (simp only [(show ig13 7452 = i 7452 from kg13.fi 7452 rfl), sMn, sMx]; rfl))), (show ig13 7453 = ((rUndo (a 118, a 117, i 7426, i 7427) (a 133, i 7452, i 7453)).2.2).2.2 from (by unfold rUndo; simp only [if_neg bw18]; first | done | rfl | (simp only [(show ig13 7453 = ((i 7453) - 1) from kg13.fi 7453 rfl), sMn, sMx]; done) | (simp only [(show ig13 7453 = ((i 7453) - 1) from kg13.fi 7453 rfl), sMn, sMx]; rfl)))⟩⟩)
  ·
    have c19 : (i 7453).toInt = (0 : Int32).toInt := kd_neF c; clear c
    refine ft_go mi_k144 1 9 [(0, .ref 116)] [.int (-5)] i a q r (by rfl) ?_
    have bw20 : (i 7453).toInt = 0 := (orm258 c19 fi_7453.1 korm0)
    exact ft_ret mi_k144 (by rfl) (hP (-5) _ _ _ _ hG ⟨(orm159 hp0), ⟨(show ((-5) : Int32) = (rUndo (a 118, a 117, i 7426, i 7427) (a 133, i 7452, i 7453)).1 from (by unfold rUndo; simp only [if_pos bw20]; first | done | rfl | (simp only [sMn, sMx]; done) | (simp only [sMn, sMx]; rfl))), (show a 118 = ((rUndo (a 118, a 117, i 7426, i 7427) (a 133, i 7452, i 7453)).2.1).1 from (by unfold rUndo; simp only [if_pos bw20]; first | done | rfl | (simp only [sMn, sMx]; done) | (simp only [sMn, sMx]; rfl))), (show a 117 = ((rUndo (a 118, a 117, i 7426, i 7427) (a 133, i 7452, i 7453)).2.1).2.1 from (by unfold rUndo; simp only [if_pos bw20]; first | done | rfl | (simp only [sMn, sMx]; done) | (simp only [sMn, sMx]; rfl))), (show i 7426 = ((rUndo (a 118, a 117, i 7426, i 7427) (a 133, i 7452, i 7453)).2.1).2.2.1 from (by unfold rUndo; simp only [if_pos bw20]; first | done | rfl | (simp only [sMn, sMx]; done) | (simp only [sMn, sMx]; rfl))), (show i 7427 = ((rUndo (a 118, a 117, i 7426, i 7427) (a 133, i 7452, i 7453)).2.1).2.2.2 from (by unfold rUndo; simp only [if_pos bw20]; first | done | rfl | (simp only [sMn, sMx]; done) | (simp only [sMn, sMx]; rfl))), (show a 133 = ((rUndo (a 118, a 117, i 7426, i 7427) (a 133, i 7452, i 7453)).2.2).1 from (by unfold rUndo; simp only [if_pos bw20]; first | done | rfl | (simp only [sMn, sMx]; done) | (simp only [sMn, sMx]; rfl))), (show i 7452 = ((rUndo (a 118, a 117, i 7426, i 7427) (a 133, i 7452, i 7453)).2.2).2.1 from (by unfold rUndo; simp only [if_pos bw20]; first | done | rfl | (simp only [sMn, sMx]; done) | (simp only [sMn, sMx]; rfl))), (show i 7453 = ((rUndo (a 118, a 117, i 7426, i 7427) (a 133, i 7452, i 7453)).2.2).2.2 from (by unfold rUndo; simp only [if_pos bw20]; first | done | rfl | (simp only [sMn, sMx]; done) | (simp only [sMn, sMx]; rfl)))⟩⟩)
def yw145_116 : kW := ([7426, 7427, 7453], [117, 118], [], [])
set_option maxRecDepth 100000 in
theorem ke145_116 {i : Nat → Int32} {a : Nat → List Int32} {q : Nat → List Int64} {r : Nat → Nat} (hI : kI i a q) (hr : kr r) (hp0 : (i 7453).toInt ≤ (i 7452).toInt) (hE_chg : kChg i a) : km 3 145 [.ref 116] (ks i a q r) (kVI yw145_116 i a q r (fun v i1 a1 q1 r1 => ((i1 7453).toInt ≤ (i1 7452).toInt) ∧ (v = (rRedo (a 118, a 117, i 7426, i 7427) (a 133, i 7452, i 7453)).1 ∧ a1 118 = ((rRedo (a 118, a 117, i 7426, i 7427) (a 133, i 7452, i 7453)).2.1).1 ∧ a1 117 = ((rRedo (a 118, a 117, i 7426, i 7427) (a 133, i 7452, i 7453)).2.1).2.1 ∧ i1 7426 = ((rRedo (a 118, a 117, i 7426, i 7427) (a 133, i 7452, i 7453)).2.1).2.2.1 ∧ i1 7427 = ((rRedo (a 118, a 117, i 7426, i 7427) (a 133, i 7452, i 7453)).2.1).2.2.2 ∧ a1 133 = ((rRedo (a 118, a 117, i 7426, i 7427) (a 133, i 7452, i 7453)).2.2).1 ∧ i1 7452 = ((rRedo (a 118, a 117, i 7426, i 7427) (a 133, i 7452, i 7453)).2.2).2.1 ∧ i1 7453 = ((rRedo (a 118, a 117, i 7426, i 7427) (a 133, i 7452, i 7453)).2.2).2.2))) := by
  have hG := kG_self yw145_116 hI hr
  refine km_ofI (q := (mi_h145, mi_c145)) rfl (by decide) (Nat.le_of_ble_eq_true rfl) ?_
  intro P hP
  have fi_7453 : ((0 : Int) ≤ (i 7453).toInt) ∧ ((i 7453).toInt ≤ 40) := hG.I.1 7453
  have fi_7452 : ((0 : Int) ≤ (i 7452).toInt) ∧ ((i 7452).toInt ≤ 40) := hG.I.1 7452
  refine ft_go mi_k145 4 8 [(0, .ref 116)] [.int (i 7452), .int (i 7453)] i a q r (by rfl) ?_
  refine ft_if mi_k145 ((i 7453) != (i 7452)) 14 11 [(0, .ref 116)] [] (by rfl) (fun c => ?_) (fun c => ?_)
  ·
    have c1 : (i 7453).toInt ≠ (i 7452).toInt := kd_ne c; clear c
    have s2 : (4 * (i 7453)).toInt = 4 * (i 7453).toInt := kd_cmul 4 korm4 (orm79 fi_7453.1) (orm80 fi_7453.2)
    refine ft_go mi_k145 7 25 [(0, .ref 116)] [.int (4 * (i 7453)), .ref 133, .ref 116] i a q r (by rfl) ?_
    refine ko_iald3 mi_k145.1 (n := 160) (c := 160) (ax := (0, 0, 0, 0, 0)) (mi_k145.2 _ _ (by rfl)) (by rfl) (ksG133 _ _ _ _) (hG.I.2.1 133) rfl (orm81 fi_7453.1 s2) (orm259 c1 fi_7452.2 hp0 s2) ?_
    have r3 : ((((4 * (i 7453)).toInt % 4) = 0 → (0 : Int) ≤ ((a 133).getD (4 * (i 7453)).toNatClampNeg 0).toInt ∧ ((a 133).getD (4 * (i 7453)).toNatClampNeg 0).toInt ≤ 7)) ∧ ((((4 * (i 7453)).toInt % 4) = 1 → (0 : Int) ≤ ((a 133).getD (4 * (i 7453)).toNatClampNeg 0).toInt ∧ ((a 133).getD (4 * (i 7453)).toNatClampNeg 0).toInt ≤ 6)) := kE_ccond hG.I (j := (4 * (i 7453))) (orm81 fi_7453.1 s2)
    have s4 : ((4 * (i 7453)) + 1).toInt = (4 * (i 7453)).toInt + (1 : Int32).toInt := kd_add (orm84 fi_7453.1 s2 korm1) (orm85 fi_7453.2 s2 korm1)
    refine ft_go mi_k145 8 38 [(0, .ref 116)] [.int ((4 * (i 7453)) + 1), .ref 133, .int ((a 133).getD (4 * (i 7453)).toNatClampNeg 0), .ref 116] i a q r (by rfl) ?_
    refine ko_iald3 mi_k145.1 (n := 160) (c := 160) (ax := (0, 0, 0, 0, 0)) (mi_k145.2 _ _ (by rfl)) (by rfl) (ksG133 _ _ _ _) (hG.I.2.1 133) rfl (orm86 fi_7453.1 s2 s4 korm1) (orm260 c1 fi_7452.2 hp0 s2 s4 korm1) ?_
    have r5 : (((((4 * (i 7453)) + 1).toInt % 4) = 0 → (0 : Int) ≤ ((a 133).getD ((4 * (i 7453)) + 1).toNatClampNeg 0).toInt ∧ ((a 133).getD ((4 * (i 7453)) + 1).toNatClampNeg 0).toInt ≤ 7)) ∧ (((((4 * (i 7453)) + 1).toInt % 4) = 1 → (0 : Int) ≤ ((a 133).getD ((4 * (i 7453)) + 1).toNatClampNeg 0).toInt ∧ ((a 133).getD ((4 * (i 7453)) + 1).toNatClampNeg 0).toInt ≤ 6)) := kE_ccond hG.I (j := ((4 * (i 7453)) + 1)) (orm86 fi_7453.1 s2 s4 korm1)
    have s6 : ((4 * (i 7453)) + 3).toInt = (4 * (i 7453)).toInt + (3 : Int32).toInt := kd_add (orm94 fi_7453.1 s2 korm3) (orm95 fi_7453.2 s2 korm3)
    refine ft_go mi_k145 8 51 [(0, .ref 116)] [.int ((4 * (i 7453)) + 3), .ref 133, .int ((a 133).getD ((4 * (i 7453)) + 1).toNatClampNeg 0), .int ((a 133).getD (4 * (i 7453)).toNatClampNeg 0), .ref 116] i a q r (by rfl) ?_
    refine ko_iald3 mi_k145.1 (n := 160) (c := 160) (ax := (0, 0, 0, 0, 0)) (mi_k145.2 _ _ (by rfl)) (by rfl) (ksG133 _ _ _ _) (hG.I.2.1 133) rfl (orm96 fi_7453.1 s2 s6 korm3) (orm261 c1 fi_7452.2 hp0 s2 s6 korm3) ?_
    have r7 : (((((4 * (i 7453)) + 3).toInt % 4) = 0 → (0 : Int) ≤ ((a 133).getD ((4 * (i 7453)) + 3).toNatClampNeg 0).toInt ∧ ((a 133).getD ((4 * (i 7453)) + 3).toNatClampNeg 0).toInt ≤ 7)) ∧ (((((4 * (i 7453)) + 3).toInt % 4) = 1 → (0 : Int) ≤ ((a 133).getD ((4 * (i 7453)) + 3).toNatClampNeg 0).toInt ∧ ((a 133).getD ((4 * (i 7453)) + 3).toNatClampNeg 0).toInt ≤ 6)) := kE_ccond hG.I (j := ((4 * (i 7453)) + 3)) (orm96 fi_7453.1 s2 s6 korm3)
    have cn8 : ((0 : Int) ≤ ((a 133).getD (4 * (i 7453)).toNatClampNeg 0).toInt) ∧ (((a 133).getD (4 * (i 7453)).toNatClampNeg 0).toInt ≤ 7) := kE_cn hG.I (d := (i 7453)) (orm0 fi_7453.1) (orm108 s2)
    have cw9 : ((0 : Int) ≤ ((a 133).getD ((4 * (i 7453)) + 1).toNatClampNeg 0).toInt) ∧ (((a 133).getD ((4 * (i 7453)) + 1).toNatClampNeg 0).toInt ≤ 6) := kE_cw hG.I (d := (i 7453)) (orm0 fi_7453.1) (orm109 s2 s4 korm1)
    have ch10 : (((a 133).getD ((4 * (i 7453)) + 1).toNatClampNeg 0).toInt = 4 → (1 : Int) ≤ ((a 133).getD ((4 * (i 7453)) + 3).toNatClampNeg 0).toInt ∧ ((a 133).getD ((4 * (i 7453)) + 3).toNatClampNeg 0).toInt ≤ 5) := kChL_r (kChg_of (i1 := i) hE_chg (hG.fa 133 rfl)) (d := (i 7453)) (orm0 fi_7453.1) (orm109 s2 s4 korm1) (orm111 s2 s6 korm3)
    refine ko_callN mi_k145.1 (pc := 52) (ls := [(0, .ref 116)]) (st := [.int ((a 133).getD ((4 * (i 7453)) + 3).toNatClampNeg 0), .int ((a 133).getD ((4 * (i 7453)) + 1).toNatClampNeg 0), .int ((a 133).getD (4 * (i 7453)).toNatClampNeg 0), .ref 116]) (h := ks i a q r) (i := (.invokevirtual 150, 3, 141, 0, 9, 0, 390)) (mi_k145.2 _ _ (by rfl)) (ft_invS mi_pq141 (by rfl)) (cy := mi_c141) mi_pq141 rfl (ke141_116 hG.I hG.R ((a 133).getD (4 * (i 7453)).toNatClampNeg 0) ((a 133).getD ((4 * (i 7453)) + 1).toNatClampNeg 0) ((a 133).getD ((4 * (i 7453)) + 3).toNatClampNeg 0) (orm253 cn8.1 cn8.2) (orm254 cw9.1 cw9.2) (orm255 ch10)) (by decide) ?_
    intro ig11 ag11 qg11 rg11 kg11 hg11
    have hGg11 := kG_call hG kg11 (by decide +kernel)
    obtain ⟨hg11, og11⟩ := hg11
    have q12 : ag11 118 = (rSet ((a 133).getD (4 * (i 7453)).toNatClampNeg 0) ((a 133).getD ((4 * (i 7453)) + 1).toNatClampNeg 0) ((a 133).getD ((4 * (i 7453)) + 3).toNatClampNeg 0) (a 118, a 117, i 7426, i 7427)).1 := og11.1
    have q13 : ag11 117 = (rSet ((a 133).getD (4 * (i 7453)).toNatClampNeg 0) ((a 133).getD ((4 * (i 7453)) + 1).toNatClampNeg 0) ((a 133).getD ((4 * (i 7453)) + 3).toNatClampNeg 0) (a 118, a 117, i 7426, i 7427)).2.1 := og11.2.1
    have q14 : ig11 7426 = (rSet ((a 133).getD (4 * (i 7453)).toNatClampNeg 0) ((a 133).getD ((4 * (i 7453)) + 1).toNatClampNeg 0) ((a 133).getD ((4 * (i 7453)) + 3).toNatClampNeg 0) (a 118, a 117, i 7426, i 7427)).2.2.1 := og11.2.2.1
    have q15 : ig11 7427 = (rSet ((a 133).getD (4 * (i 7453)).toNatClampNeg 0) ((a 133).getD ((4 * (i 7453)) + 1).toNatClampNeg 0) ((a 133).getD ((4 * (i 7453)) + 3).toNatClampNeg 0) (a 118, a 117, i 7426, i 7427)).2.2.2 := og11.2.2.2
    have fig11_7453 : ((0 : Int) ≤ (ig11 7453).toInt) ∧ ((ig11 7453).toInt ≤ 40) := hGg11.I.1 7453
    have efig11_7453 : (ig11 7453).toInt = (i 7453).toInt := kg11.ti 7453 rfl
    have s16 : ((ig11 7453) + 1).toInt = (ig11 7453).toInt + (1 : Int32).toInt := kd_add (orm98 fig11_7453.1 korm1) (orm99 fig11_7453.2 korm1)
    have hJ17 := kG_i hGg11 7453 rfl (v := ((ig11 7453) + 1)) ⟨(orm100 fig11_7453.1 s16 korm1), (orm262 c1 efig11_7453 fi_7452.2 hp0 s16 s2 korm1)⟩
    have fig11_7452 : ((0 : Int) ≤ (ig11 7452).toInt) ∧ ((ig11 7452).toInt ≤ 40) := hJ17.I.1 7452
    have efig11_7452 : (ig11 7452).toInt = (i 7452).toInt := kg11.ti 7452 rfl
    have s18 : ((ig11 7452) - ((ig11 7453) + 1)).toInt = (ig11 7452).toInt - ((ig11 7453) + 1).toInt := kd_sub (orm263 fig11_7452.1 fig11_7453.2 s16 korm1) (orm264 fig11_7452.2 fig11_7453.1 s16 korm1)
    refine ft_go mi_k145 11 74 [(0, .ref 116)] [.int ((ig11 7452) - ((ig11 7453) + 1))] (ku ig11 7453 ((ig11 7453) + 1)) ag11 qg11 rg11 (by rfl) ?_
    have bw19 : ¬ ((i 7453).toInt = (i 7452).toInt) := (orm266 c1 hp0)
    exact ft_ret mi_k145 (by rfl) (hP ((ig11 7452) - ((ig11 7453) + 1)) _ _ _ _ hJ17 ⟨(orm265 c1 efig11_7452 efig11_7453 hp0 s16 korm1), ⟨(show ((ig11 7452) - ((ig11 7453) + 1)) = (rRedo (a 118, a 117, i 7426, i 7427) (a 133, i 7452, i 7453)).1 from (by unfold rRedo; simp only [if_neg bw19]; first | done | rfl | (simp only [(show ig11 7452 = i 7452 from kg11.fi 7452 rfl), (show ig11 7453 = i 7453 from kg11.fi 7453 rfl), sMn, sMx]; done) | (simp only [(show ig11 7452 = i 7452 from kg11.fi 7452 rfl), (show ig11 7453 = i 7453 from kg11.fi 7453 rfl), sMn, sMx]; rfl))), (show ag11 118 = ((rRedo (a 118, a 117, i 7426, i 7427) (a 133, i 7452, i 7453)).2.1).1 from (by unfold rRedo; simp only [if_neg bw19]; first | done | rfl | (simp only [q12, sMn, sMx]; done) | (simp only [q12, sMn, sMx]; rfl))), (show ag11 117 = ((rRedo (a 118, a 117, i 7426, i 7427) (a 133, i 7452, i 7453)).2.1).2.1 from (by unfold rRedo; simp only [if_neg bw19]; first | done | rfl | (simp only [q13, sMn, sMx]; done) | (simp only [q13, sMn, sMx]; rfl))), (show ig11 7426 = ((rRedo (a 118, a 117, i 7426, i 7427) (a 133, i 7452, i 7453)).2.1).2.2.1 from (by unfold rRedo; simp only [if_neg bw19]; first | done | rfl | (simp only [q14, sMn, sMx]; done) | (simp only [q14, sMn, sMx]; rfl))), (show ig11 7427 = ((rRedo (a 118, a 117, i 7426, i 7427) (a 133, i 7452, i 7453)).2.1).2.2.2 from (by unfold rRedo; simp only [if_neg bw19]; first | done | rfl | (simp only [q15, sMn, sMx]; done) | (simp only [q15, sMn, sMx]; rfl))), (show ag11 133 = ((rRedo (a 118, a 117, i 7426, i 7427) (a 133, i 7452, i 7453)).2.2).1 from (by unfold rRedo; simp only [if_neg bw19]; first | done | rfl | (simp only [kg11.fa 133 rfl, sMn, sMx]; done) | (simp only [kg11.fa 133 rfl, sMn, sMx]; rfl))), (show ig11 7452 = ((rRedo (a 118, a 117, i 7426, i 7427) (a 133, i 7452, i 7453)).2.2).2.1 from (by unfold rRedo; simp only [if_neg bw19]; first | done | rfl | (simp only [(show ig11 7452 = i 7452 from kg11.fi 7452 rfl), sMn, sMx]; done) | (simp only [(show ig11 7452 = i 7452 from kg11.fi 7452 rfl), sMn, sMx]; rfl))), (show ((ig11 7453) + 1) = ((rRedo (a 118, a 117, i 7426, i 7427) (a 133, i 7452, i 7453)).2.2).2.2 from (by unfold rRedo; simp only [if_neg bw19]; first | done | rfl | (simp only [(show ig11 7453 = i 7453 from kg11.fi 7453 rfl), sMn, sMx]; done) | (simp only [(show ig11 7453 = i 7453 from kg11.fi 7453 rfl), sMn, sMx]; rfl)))⟩⟩)
  ·
    have c20 : (i 7453).toInt = (i 7452).toInt := kd_neF c; clear c
    refine ft_go mi_k145 1 13 [(0, .ref 116)] [.int (-5)] i a q r (by rfl) ?_
    have bw21 : (i 7453).toInt = (i 7452).toInt := (orm267 c20 hp0)
    exact ft_ret mi_k145 (by rfl) (hP (-5) _ _ _ _ hG ⟨(orm159 hp0), ⟨(show ((-5) : Int32) = (rRedo (a 118, a 117, i 7426, i 7427) (a 133, i 7452, i 7453)).1 from (by unfold rRedo; simp only [if_pos bw21]; first | done | rfl | (simp only [sMn, sMx]; done) | (simp only [sMn, sMx]; rfl))), (show a 118 = ((rRedo (a 118, a 117, i 7426, i 7427) (a 133, i 7452, i 7453)).2.1).1 from (by unfold rRedo; simp only [if_pos bw21]; first | done | rfl | (simp only [sMn, sMx]; done) | (simp only [sMn, sMx]; rfl))), (show a 117 = ((rRedo (a 118, a 117, i 7426, i 7427) (a 133, i 7452, i 7453)).2.1).2.1 from (by unfold rRedo; simp only [if_pos bw21]; first | done | rfl | (simp only [sMn, sMx]; done) | (simp only [sMn, sMx]; rfl))), (show i 7426 = ((rRedo (a 118, a 117, i 7426, i 7427) (a 133, i 7452, i 7453)).2.1).2.2.1 from (by unfold rRedo; simp only [if_pos bw21]; first | done | rfl | (simp only [sMn, sMx]; done) | (simp only [sMn, sMx]; rfl))), (show i 7427 = ((rRedo (a 118, a 117, i 7426, i 7427) (a 133, i 7452, i 7453)).2.1).2.2.2 from (by unfold rRedo; simp only [if_pos bw21]; first | done | rfl | (simp only [sMn, sMx]; done) | (simp only [sMn, sMx]; rfl))), (show a 133 = ((rRedo (a 118, a 117, i 7426, i 7427) (a 133, i 7452, i 7453)).2.2).1 from (by unfold rRedo; simp only [if_pos bw21]; first | done | rfl | (simp only [sMn, sMx]; done) | (simp only [sMn, sMx]; rfl))), (show i 7452 = ((rRedo (a 118, a 117, i 7426, i 7427) (a 133, i 7452, i 7453)).2.2).2.1 from (by unfold rRedo; simp only [if_pos bw21]; first | done | rfl | (simp only [sMn, sMx]; done) | (simp only [sMn, sMx]; rfl))), (show i 7453 = ((rRedo (a 118, a 117, i 7426, i 7427) (a 133, i 7452, i 7453)).2.2).2.2 from (by unfold rRedo; simp only [if_pos bw21]; first | done | rfl | (simp only [sMn, sMx]; done) | (simp only [sMn, sMx]; rfl)))⟩⟩)
def yw168_116_131 : kW := ([], [131], [], [])
def yw168_116_131_L2 : kW := ([], [131], [], [])
set_option maxRecDepth 100000 in
theorem ke168_116_131 {i : Nat → Int32} {a : Nat → List Int32} {q : Nat → List Int64} {r : Nat → Nat} (hI : kI i a q) (hr : kr r) (x2 : Int32) (hp0 : x2.toInt = 0) : km 1 168 [.ref 116, .ref 131, .int x2] (ks i a q r) (kVN yw168_116_131 i a q r (fun i1 a1 q1 r1 => (True) ∧ a1 131 = a 118)) := by
  have hG := kG_self yw168_116_131 hI hr
  refine km_ofN (q := (mi_h168, mi_c168)) rfl (by decide) (Nat.le_of_ble_eq_true rfl) ?_
  intro P hP
  refine ft_go mi_k168 2 2 [(3, .int 0), (0, .ref 116), (1, .ref 131), (2, .int x2)] [] i a q r (by rfl) ?_
  have lp1 : ∀ (nz : Nat) (i1 : Nat → Int32) (a1 : Nat → List Int32) (q1 : Nat → List Int64) (r1 : Nat → Nat) (l3_1 : Int32), kG yw168_116_131_L2 i a q r i1 a1 q1 r1 → (0 : Int) ≤ l3_1.toInt → kCopd (a1 131) (a 118) 0 l3_1.toInt → ((31 - l3_1.toInt)).toNat < nz → ko 1 (mi_h168, mi_c168) P (2, [(3, .int l3_1), (0, .ref 116), (1, .ref 131), (2, .int x2)], [], (0, 0), ks i1 a1 q1 r1) := by
    intro nz
    induction nz with
    | zero =>
      intro _ _ _ _ _ _ _ _ hm
      exact absurd hm (Nat.not_lt_zero _)
    | succ nz ih1 =>
      intro i1 a1 q1 r1 l3_1 hL1 p1_0 O1_0 hm1
      refine ft_go mi_k168 2 5 [(3, .int l3_1), (0, .ref 116), (1, .ref 131), (2, .int x2)] [.int 31, .int l3_1] i1 a1 q1 r1 (by rfl) ?_
      refine ft_if mi_k168 (decide (31 ≤ l3_1)) 25 8 [(3, .int l3_1), (0, .ref 116), (1, .ref 131), (2, .int x2)] [] (by rfl) (fun c => ?_) (fun c => ?_)
      ·
        have c2 : (31 : Int32).toInt ≤ l3_1.toInt := kd_le c; clear c
        have hG3 := kG_call hG hL1 (by decide +kernel)
        exact ft_ret mi_k168 (by rfl) (hP  _ _ _ _ hG3 ⟨trivial, (show a1 131 = a 118 from (kCopd_end O1_0 (hG3.I.2.1 131) (hG.I.2.1 118) (orm271 c2 korm31)))⟩)
      ·
        have c4 : l3_1.toInt < (31 : Int32).toInt := kd_leF c; clear c
        have s5 : (x2 + l3_1).toInt = x2.toInt + l3_1.toInt := kd_add (orm272 hp0 p1_0) (orm273 c4 hp0 korm31)
        refine ft_go mi_k168 7 17 [(3, .int l3_1), (0, .ref 116), (1, .ref 131), (2, .int x2)] [.int l3_1, .ref 118, .int (x2 + l3_1), .ref 131] i1 a1 q1 r1 (by rfl) ?_
        refine ko_iald3 mi_k168.1 (n := 31) (c := 31) (ax := (0, 0, 0, 0, 0)) (mi_k168.2 _ _ (by rfl)) (by rfl) (ksG118 _ _ _ _) (hL1.I.2.1 118) rfl (orm0 p1_0) (orm274 c4 korm31) ?_
        have r6 : ((l3_1.toInt = 18 → (0 : Int) ≤ ((a1 118).getD l3_1.toNatClampNeg 0).toInt ∧ ((a1 118).getD l3_1.toNatClampNeg 0).toInt ≤ 5)) ∧ ((19 ≤ l3_1.toInt → l3_1.toInt ≤ 24 → (0 : Int) ≤ ((a1 118).getD l3_1.toNatClampNeg 0).toInt ∧ ((a1 118).getD l3_1.toNatClampNeg 0).toInt ≤ 7)) := kE_ncond (p := 118) hL1.I (by decide) (j := l3_1) (orm0 p1_0)
        have u7 : ((a1 118).getD l3_1.toNatClampNeg 0).toInt = ((a 118).getD l3_1.toNatClampNeg 0).toInt := congrArg (fun z : List Int32 => (z.getD l3_1.toNatClampNeg 0).toInt) (hL1.fa 118 rfl)
        refine ko_iast3 mi_k168.1 (n := 31) (c := 31) (ax := (0, 0, 0, 0, 0)) (mi_k168.2 _ _ (by rfl)) (by rfl) (ksG131 _ _ _ _) (ksA131 _ _ _ _) (hL1.I.2.1 131) rfl (orm275 hp0 p1_0 s5) (orm276 c4 hp0 s5 korm31) ?_
        intro a8 ea8 fa8
        have hJ8 := kG_a3 hL1 131 rfl ea8 fa8 (kE_nset (p := 131) (by decide) (orm275 hp0 p1_0 s5) (orm277 hp0 r6.1 s5) (orm278 hp0 r6.2 s5))
        have s9 : (l3_1 + 1).toInt = l3_1.toInt + (1 : Int32).toInt := kd_add (orm98 p1_0 korm1) (orm279 c4 korm31 korm1)
        refine ft_go mi_k168 2 2 [(3, .int (l3_1 + 1)), (0, .ref 116), (1, .ref 131), (2, .int x2)] [] i1 a8 q1 r1 (by rfl) ?_
        exact ih1 _ _ _ _ _ hJ8 (orm100 p1_0 s9 korm1) (kCopd_step O1_0 (hL1.I.2.1 131) (orm0 p1_0) (orm274 c4 korm31) (orm280 hp0 s5) orm281 (orm276 c4 hp0 s5 korm31) (orm155 s9 korm1) (hL1.fa 118 rfl) ea8 rfl) (kj_meas (orm282 s9 korm1) (orm283 c4 korm31) hm1)
  exact lp1 _ _ _ _ _ _ (kG_self _ hG.I hG.R) (orm284 korm0) (kCopd_zero korm0) (Nat.lt_succ_self _)
def yw206_116 : kW := ([7448, 7449], [131, 132], [], [])
def yw206_116_L24 : kW := ([], [132], [], [])
set_option maxRecDepth 100000 in
theorem ke206_116 {i : Nat → Int32} {a : Nat → List Int32} {q : Nat → List Int64} {r : Nat → Nat} (hI : kI i a q) (hr : kr r)  : km 3 206 [.ref 116] (ks i a q r) (kVI yw206_116 i a q r (fun v i1 a1 q1 r1 => (True) ∧ (i1 7448 = 1 ∧ i1 7449 = i 7424 ∧ a1 131 = a 118 ∧ a1 132 = a 130 ∧ v = (a 130).getD (0 : Int32).toNatClampNeg 0))) := by
  have hG := kG_self yw206_116 hI hr
  refine km_ofI (q := (mi_h206, mi_c206)) rfl (by decide) (Nat.le_of_ble_eq_true rfl) ?_
  intro P hP
  have hJ1 := kG_i hG 7448 rfl (v := 1) ⟨(orm268 korm1), (orm269 korm1)⟩
  have fi_7424 : ((0 : Int) ≤ (i 7424).toInt) ∧ ((i 7424).toInt ≤ 8) := hJ1.I.1 7424
  have hJ2 := kG_i hJ1 7449 rfl (v := (i 7424)) ⟨(orm0 fi_7424.1), (orm270 fi_7424.2)⟩
  refine ft_go mi_k206 11 19 [(0, .ref 116)] [.int 0, .ref 131, .ref 116] (ku (ku i 7448 1) 7449 (i 7424)) a q r (by rfl) ?_
  refine ko_callN mi_k206.1 (pc := 19) (ls := [(0, .ref 116)]) (st := [.int 0, .ref 131, .ref 116]) (h := ks (ku (ku i 7448 1) 7449 (i 7424)) a q r) (i := (.invokevirtual 263, 3, 168, 0, 9, 0, 413)) (mi_k206.2 _ _ (by rfl)) (ft_invS mi_pq168 (by rfl)) (cy := mi_c168) mi_pq168 rfl (ke168_116_131 hJ2.I hJ2.R 0 (orm104 korm0)) (by decide) ?_
  intro ig3 ag3 qg3 rg3 kg3 hg3
  have hGg3 := kG_call hJ2 kg3 (by decide +kernel)
  obtain ⟨hg3, og3⟩ := hg3
  have q4 : ag3 131 = a 118 := og3
  refine ft_go mi_k206 2 24 [(1, .int 0), (0, .ref 116)] [] ig3 ag3 qg3 rg3 (by rfl) ?_
  have lp5 : ∀ (nz : Nat) (i5 : Nat → Int32) (a5 : Nat → List Int32) (q5 : Nat → List Int64) (r5 : Nat → Nat) (l1_5 : Int32), kG yw206_116_L24 ig3 ag3 qg3 rg3 i5 a5 q5 r5 → (0 : Int) ≤ l1_5.toInt → kPre (a5 132) (a 130) l1_5.toInt → ((5 - l1_5.toInt)).toNat < nz → ko 3 (mi_h206, mi_c206) P (24, [(1, .int l1_5), (0, .ref 116)], [], (0, 0), ks i5 a5 q5 r5) := by
    intro nz
    induction nz with
    | zero =>
      intro _ _ _ _ _ _ _ _ hm
      exact absurd hm (Nat.not_lt_zero _)
    | succ nz ih5 =>
      intro i5 a5 q5 r5 l1_5 hL5 p5_0 O5_0 hm5
      refine ft_go mi_k206 2 26 [(1, .int l1_5), (0, .ref 116)] [.int 5, .int l1_5] i5 a5 q5 r5 (by rfl) ?_
      refine ft_if mi_k206 (decide (5 ≤ l1_5)) 47 29 [(1, .int l1_5), (0, .ref 116)] [] (by rfl) (fun c => ?_) (fun c => ?_)
      ·
        have c6 : (5 : Int32).toInt ≤ l1_5.toInt := kd_le c; clear c
        have hG7 := kG_call hGg3 hL5 (by decide +kernel)
        have qp8 : a5 132 = a 130 := kPre_end O5_0 (hG7.I.2.1 132) (hG.I.2.1 130) (orm285 c6 korm5)
        refine ft_go mi_k206 3 52 [(1, .int l1_5), (0, .ref 116)] [.int 0, .ref 130] i5 a5 q5 r5 (by rfl) ?_
        refine ko_iald3 mi_k206.1 (n := 5) (c := 5) (ax := (0, 0, 0, 0, 0)) (mi_k206.2 _ _ (by rfl)) (by rfl) (ksG130 _ _ _ _) (hG7.I.2.1 130) rfl (orm284 korm0) (orm286 korm0) ?_
        exact ft_ret mi_k206 (by rfl) (hP ((a5 130).getD (0 : Int32).toNatClampNeg 0) _ _ _ _ hG7 ⟨trivial, ⟨(show i5 7448 = 1 from (by first | rfl | (simp only [(show i5 7448 = ig3 7448 from hL5.fi 7448 rfl), (show ig3 7448 = (1 : Int32) from kg3.fi 7448 rfl), sMn, sMx]; done) | (simp only [(show i5 7448 = ig3 7448 from hL5.fi 7448 rfl), (show ig3 7448 = (1 : Int32) from kg3.fi 7448 rfl), sMn, sMx]; rfl))), (show i5 7449 = i 7424 from (by first | rfl | (simp only [(show i5 7449 = ig3 7449 from hL5.fi 7449 rfl), (show ig3 7449 = (i 7424) from kg3.fi 7449 rfl), sMn, sMx]; done) | (simp only [(show i5 7449 = ig3 7449 from hL5.fi 7449 rfl), (show ig3 7449 = (i 7424) from kg3.fi 7449 rfl), sMn, sMx]; rfl))), (show a5 131 = a 118 from (by first | rfl | (simp only [hL5.fa 131 rfl, q4, sMn, sMx]; done) | (simp only [hL5.fa 131 rfl, q4, sMn, sMx]; rfl))), (show a5 132 = a 130 from (by first | rfl | (simp only [qp8, sMn, sMx]; done) | (simp only [qp8, sMn, sMx]; rfl))), (show ((a5 130).getD (0 : Int32).toNatClampNeg 0) = (a 130).getD (0 : Int32).toNatClampNeg 0 from (by first | rfl | (simp only [hL5.fa 130 rfl, kg3.fa 130 rfl, sMn, sMx]; done) | (simp only [hL5.fa 130 rfl, kg3.fa 130 rfl, sMn, sMx]; rfl)))⟩⟩)
      ·
        have c9 : l1_5.toInt < (5 : Int32).toInt := kd_leF c; clear c
        refine ft_go mi_k206 6 39 [(1, .int l1_5), (0, .ref 116)] [.int l1_5, .ref 130, .int l1_5, .ref 132] i5 a5 q5 r5 (by rfl) ?_
        refine ko_iald3 mi_k206.1 (n := 5) (c := 5) (ax := (0, 0, 0, 0, 0)) (mi_k206.2 _ _ (by rfl)) (by rfl) (ksG130 _ _ _ _) (hL5.I.2.1 130) rfl (orm0 p5_0) (orm287 c9 korm5) ?_
        refine ko_iast3 mi_k206.1 (n := 5) (c := 5) (ax := (0, 0, 0, 0, 0)) (mi_k206.2 _ _ (by rfl)) (by rfl) (ksG132 _ _ _ _) (ksA132 _ _ _ _) (hL5.I.2.1 132) rfl (orm0 p5_0) (orm287 c9 korm5) ?_
        intro a10 ea10 fa10
        have hJ10 := kG_a3 hL5 132 rfl ea10 fa10 (kd_bd _)
        have s11 : (l1_5 + 1).toInt = l1_5.toInt + (1 : Int32).toInt := kd_add (orm98 p5_0 korm1) (orm288 c9 korm5 korm1)
        refine ft_go mi_k206 2 24 [(1, .int (l1_5 + 1)), (0, .ref 116)] [] i5 a10 q5 r5 (by rfl) ?_
        exact ih5 _ _ _ _ _ hJ10 (orm100 p5_0 s11 korm1) (kPre_step O5_0 (hL5.I.2.1 132) (orm0 p5_0) (orm289 c9 korm5) (orm155 s11 korm1) ((hL5.fa 130 rfl).trans (kg3.fa 130 rfl)) ea10) (kj_meas (orm290 s11 korm1) (orm291 c9 korm5) hm5)
  exact lp5 _ _ _ _ _ _ (kG_self _ hGg3.I hGg3.R) (orm284 korm0) (kPre_zero korm0) (Nat.lt_succ_self _)
def yw207_116 : kW := ([], [118, 130], [], [])
def yw207_116_L12 : kW := ([], [118], [], [])
def yw207_116_L79 : kW := ([], [130], [], [])
set_option maxRecDepth 100000 in
theorem ke207_116 {i : Nat → Int32} {a : Nat → List Int32} {q : Nat → List Int64} {r : Nat → Nat} (hI : kI i a q) (hr : kr r)  : km 1 207 [.ref 116] (ks i a q r) (kVI yw207_116 i a q r (fun v i1 a1 q1 r1 => (True) ∧ (((i 7448).toInt ≠ 0 → a1 118 = rBk (i 7449) (a 118) (a 131)) ∧ ((i 7448).toInt ≠ 0 → a1 130 = a 132) ∧ ((i 7448).toInt ≠ 0 → v = (a 132).getD (0 : Int32).toNatClampNeg 0) ∧ ((i 7448).toInt = 0 → a1 118 = a 118) ∧ ((i 7448).toInt = 0 → a1 130 = a 130) ∧ ((i 7448).toInt = 0 → v = -5)))) := by
  have hG := kG_self yw207_116 hI hr
  refine km_ofI (q := (mi_h207, mi_c207)) rfl (by decide) (Nat.le_of_ble_eq_true rfl) ?_
  intro P hP
  have fi_7448 : ((0 : Int) ≤ (i 7448).toInt) ∧ ((i 7448).toInt ≤ 1) := hG.I.1 7448
  refine ft_go mi_k207 2 4 [(0, .ref 116)] [.int (i 7448)] i a q r (by rfl) ?_
  refine ft_if mi_k207 ((i 7448) != 0) 10 7 [(0, .ref 116)] [] (by rfl) (fun c => ?_) (fun c => ?_)
  ·
    have c1 : (i 7448).toInt ≠ (0 : Int32).toInt := kd_ne c; clear c
    refine ft_go mi_k207 2 12 [(1, .int 0), (0, .ref 116)] [] i a q r (by rfl) ?_
    have lp2 : ∀ (nz : Nat) (i2 : Nat → Int32) (a2 : Nat → List Int32) (q2 : Nat → List Int64) (r2 : Nat → Nat) (l1_2 : Int32), kG yw207_116_L12 i a q r i2 a2 q2 r2 → (0 : Int) ≤ l1_2.toInt → kBk (i 7449) (a2 118) (a 118) (a 131) l1_2.toInt → ((31 - l1_2.toInt)).toNat < nz → ko 1 (mi_h207, mi_c207) P (12, [(1, .int l1_2), (0, .ref 116)], [], (0, 0), ks i2 a2 q2 r2) := by
      intro nz
      induction nz with
      | zero =>
        intro _ _ _ _ _ _ _ _ hm
        exact absurd hm (Nat.not_lt_zero _)
      | succ nz ih2 =>
        intro i2 a2 q2 r2 l1_2 hL2 p2_0 O2_0 hm2
        refine ft_go mi_k207 2 15 [(1, .int l1_2), (0, .ref 116)] [.int 31, .int l1_2] i2 a2 q2 r2 (by rfl) ?_
        refine ft_if mi_k207 (decide (31 ≤ l1_2)) 77 18 [(1, .int l1_2), (0, .ref 116)] [] (by rfl) (fun c => ?_) (fun c => ?_)
        ·
          have c3 : (31 : Int32).toInt ≤ l1_2.toInt := kd_le c; clear c
          have hG4 := kG_call hG hL2 (by decide +kernel)
          have qk5 : a2 118 = rBk (i 7449) (a 118) (a 131) := kBk_end O2_0 (hG4.I.2.1 118) (orm271 c3 korm31)
          refine ft_go mi_k207 2 79 [(1, .int 0), (0, .ref 116)] [] i2 a2 q2 r2 (by rfl) ?_
          have lp6 : ∀ (nz : Nat) (i6 : Nat → Int32) (a6 : Nat → List Int32) (q6 : Nat → List Int64) (r6 : Nat → Nat) (l1_6 : Int32), kG yw207_116_L79 i2 a2 q2 r2 i6 a6 q6 r6 → (0 : Int) ≤ l1_6.toInt → kPre (a6 130) (a 132) l1_6.toInt → ((5 - l1_6.toInt)).toNat < nz → ko 1 (mi_h207, mi_c207) P (79, [(1, .int l1_6), (0, .ref 116)], [], (0, 0), ks i6 a6 q6 r6) := by
            intro nz
            induction nz with
            | zero =>
              intro _ _ _ _ _ _ _ _ hm
              exact absurd hm (Nat.not_lt_zero _)
            | succ nz ih6 =>
              intro i6 a6 q6 r6 l1_6 hL6 p6_0 O6_0 hm6
              refine ft_go mi_k207 2 81 [(1, .int l1_6), (0, .ref 116)] [.int 5, .int l1_6] i6 a6 q6 r6 (by rfl) ?_
              refine ft_if mi_k207 (decide (5 ≤ l1_6)) 102 84 [(1, .int l1_6), (0, .ref 116)] [] (by rfl) (fun c => ?_) (fun c => ?_)
              ·
                have c7 : (5 : Int32).toInt ≤ l1_6.toInt := kd_le c; clear c
                have hG8 := kG_call hG4 hL6 (by decide +kernel)
                have qp9 : a6 130 = a 132 := kPre_end O6_0 (hG8.I.2.1 130) (hG.I.2.1 132) (orm285 c7 korm5)
                refine ft_go mi_k207 3 107 [(1, .int l1_6), (0, .ref 116)] [.int 0, .ref 130] i6 a6 q6 r6 (by rfl) ?_
                refine ko_iald3 mi_k207.1 (n := 5) (c := 5) (ax := (0, 0, 0, 0, 0)) (mi_k207.2 _ _ (by rfl)) (by rfl) (ksG130 _ _ _ _) (hG8.I.2.1 130) rfl (orm284 korm0) (orm286 korm0) ?_
                exact ft_ret mi_k207 (by rfl) (hP ((a6 130).getD (0 : Int32).toNatClampNeg 0) _ _ _ _ hG8 ⟨trivial, ⟨(fun _ => (show a6 118 = rBk (i 7449) (a 118) (a 131) from (by first | rfl | (simp only [hL6.fa 118 rfl, qk5, sMn, sMx]; done) | (simp only [hL6.fa 118 rfl, qk5, sMn, sMx]; rfl)))), (fun _ => (show a6 130 = a 132 from (by first | rfl | (simp only [qp9, sMn, sMx]; done) | (simp only [qp9, sMn, sMx]; rfl)))), (fun _ => (show ((a6 130).getD (0 : Int32).toNatClampNeg 0) = (a 132).getD (0 : Int32).toNatClampNeg 0 from (by first | rfl | (simp only [qp9, sMn, sMx]; done) | (simp only [qp9, sMn, sMx]; rfl)))), (fun h => absurd h (orm292 c1 fi_7448.1 korm0)), (fun h => absurd h (orm292 c1 fi_7448.1 korm0)), (fun h => absurd h (orm292 c1 fi_7448.1 korm0))⟩⟩)
              ·
                have c10 : l1_6.toInt < (5 : Int32).toInt := kd_leF c; clear c
                refine ft_go mi_k207 6 94 [(1, .int l1_6), (0, .ref 116)] [.int l1_6, .ref 132, .int l1_6, .ref 130] i6 a6 q6 r6 (by rfl) ?_
                refine ko_iald3 mi_k207.1 (n := 5) (c := 5) (ax := (0, 0, 0, 0, 0)) (mi_k207.2 _ _ (by rfl)) (by rfl) (ksG132 _ _ _ _) (hL6.I.2.1 132) rfl (orm0 p6_0) (orm287 c10 korm5) ?_
                refine ko_iast3 mi_k207.1 (n := 5) (c := 5) (ax := (0, 0, 0, 0, 0)) (mi_k207.2 _ _ (by rfl)) (by rfl) (ksG130 _ _ _ _) (ksA130 _ _ _ _) (hL6.I.2.1 130) rfl (orm0 p6_0) (orm287 c10 korm5) ?_
                intro a11 ea11 fa11
                have hJ11 := kG_a3 hL6 130 rfl ea11 fa11 (kd_bd _)
                have s12 : (l1_6 + 1).toInt = l1_6.toInt + (1 : Int32).toInt := kd_add (orm98 p6_0 korm1) (orm288 c10 korm5 korm1)
                refine ft_go mi_k207 2 79 [(1, .int (l1_6 + 1)), (0, .ref 116)] [] i6 a11 q6 r6 (by rfl) ?_
                exact ih6 _ _ _ _ _ hJ11 (orm100 p6_0 s12 korm1) (kPre_step O6_0 (hL6.I.2.1 130) (orm0 p6_0) (orm289 c10 korm5) (orm155 s12 korm1) ((hL6.fa 132 rfl).trans (hL2.fa 132 rfl)) ea11) (kj_meas (orm290 s12 korm1) (orm291 c10 korm5) hm6)
          exact lp6 _ _ _ _ _ _ (kG_self _ hG4.I hG4.R) (orm284 korm0) (kPre_zero korm0) (Nat.lt_succ_self _)
        ·
          have c13 : l1_2.toInt < (31 : Int32).toInt := kd_leF c; clear c
          refine ft_go mi_k207 2 21 [(1, .int l1_2), (0, .ref 116)] [.int 8, .int l1_2] i2 a2 q2 r2 (by rfl) ?_
          refine ft_if mi_k207 (decide (8 ≤ l1_2)) 32 24 [(1, .int l1_2), (0, .ref 116)] [] (by rfl) (fun c => ?_) (fun c => ?_)
          ·
            have c14 : (8 : Int32).toInt ≤ l1_2.toInt := kd_le c; clear c
            have fi2_7449 : ((0 : Int) ≤ (i2 7449).toInt) ∧ ((i2 7449).toInt ≤ 8) := hL2.I.1 7449
            have fi_7449 : ((0 : Int) ≤ (i 7449).toInt) ∧ ((i 7449).toInt ≤ 8) := hG.I.1 7449
            have efi2_7449 : (i2 7449).toInt = (i 7449).toInt := hL2.ti 7449 rfl
            have s15 : (10 + (i2 7449)).toInt = (10 : Int32).toInt + (i2 7449).toInt := kd_add (orm293 fi2_7449.1 korm10) (orm294 fi2_7449.2 korm10)
            refine ft_go mi_k207 5 40 [(1, .int l1_2), (0, .ref 116)] [.int (10 + (i2 7449)), .int l1_2] i2 a2 q2 r2 (by rfl) ?_
            refine ft_if mi_k207 (decide (l1_2 < (10 + (i2 7449)))) 53 43 [(1, .int l1_2), (0, .ref 116)] [] (by rfl) (fun c => ?_) (fun c => ?_)
            ·
              have c16 : l1_2.toInt < (10 + (i2 7449)).toInt := kd_lt c; clear c
              refine ft_go mi_k207 10 69 [(2, .int 0), (1, .int l1_2), (0, .ref 116)] [.int l1_2, .ref 131, .int l1_2, .ref 118] i2 a2 q2 r2 (by rfl) ?_
              refine ko_iald3 mi_k207.1 (n := 31) (c := 31) (ax := (0, 0, 0, 0, 0)) (mi_k207.2 _ _ (by rfl)) (by rfl) (ksG131 _ _ _ _) (hL2.I.2.1 131) rfl (orm0 p2_0) (orm274 c13 korm31) ?_
              have r17 : ((l1_2.toInt = 18 → (0 : Int) ≤ ((a2 131).getD l1_2.toNatClampNeg 0).toInt ∧ ((a2 131).getD l1_2.toNatClampNeg 0).toInt ≤ 5)) ∧ ((19 ≤ l1_2.toInt → l1_2.toInt ≤ 24 → (0 : Int) ≤ ((a2 131).getD l1_2.toNatClampNeg 0).toInt ∧ ((a2 131).getD l1_2.toNatClampNeg 0).toInt ≤ 7)) := kE_ncond (p := 131) hL2.I (by decide) (j := l1_2) (orm0 p2_0)
              refine ko_iast3 mi_k207.1 (n := 31) (c := 31) (ax := (0, 0, 0, 0, 0)) (mi_k207.2 _ _ (by rfl)) (by rfl) (ksG118 _ _ _ _) (ksA118 _ _ _ _) (hL2.I.2.1 118) rfl (orm0 p2_0) (orm274 c13 korm31) ?_
              intro a18 ea18 fa18
              have hJ18 := kG_a3 hL2 118 rfl ea18 fa18 (kE_nset (p := 118) (by decide) (orm0 p2_0) (orm295 c16 fi2_7449.2 s15 korm10) (orm296 c16 fi2_7449.2 s15 korm10))
              have s19 : (l1_2 + 1).toInt = l1_2.toInt + (1 : Int32).toInt := kd_add (orm98 p2_0 korm1) (orm279 c13 korm31 korm1)
              refine ft_go mi_k207 2 12 [(1, .int (l1_2 + 1)), (2, .int 0), (0, .ref 116)] [] i2 a18 q2 r2 (by rfl) ?_
              refine ko_perm [(1, .int (l1_2 + 1)), (0, .ref 116)] (List.forall_mem_cons.mpr ⟨(List.Mem.head _), (List.forall_mem_cons.mpr ⟨(List.Mem.tail _ (List.Mem.tail _ (List.Mem.head _))), (fun _ h => absurd h List.not_mem_nil)⟩)⟩) ?_
              exact ih2 _ _ _ _ _ hJ18 (orm100 p2_0 s19 korm1) (kBk_step O2_0 (hL2.I.2.1 118) (orm0 p2_0) (orm274 c13 korm31) (orm297 c14 c16 efi2_7449 s15 korm8 korm10) (orm155 s19 korm1) (hL2.fa 131 rfl) ea18) (kj_meas (orm282 s19 korm1) (orm283 c13 korm31) hm2)
            ·
              have c20 : (10 + (i2 7449)).toInt ≤ l1_2.toInt := kd_ltF c; clear c
              refine ft_go mi_k207 2 46 [(1, .int l1_2), (0, .ref 116)] [.int 18, .int l1_2] i2 a2 q2 r2 (by rfl) ?_
              refine ft_if mi_k207 (decide (18 ≤ l1_2)) 53 49 [(1, .int l1_2), (0, .ref 116)] [] (by rfl) (fun c => ?_) (fun c => ?_)
              ·
                have c21 : (18 : Int32).toInt ≤ l1_2.toInt := kd_le c; clear c
                refine ft_go mi_k207 10 69 [(2, .int 0), (1, .int l1_2), (0, .ref 116)] [.int l1_2, .ref 131, .int l1_2, .ref 118] i2 a2 q2 r2 (by rfl) ?_
                refine ko_iald3 mi_k207.1 (n := 31) (c := 31) (ax := (0, 0, 0, 0, 0)) (mi_k207.2 _ _ (by rfl)) (by rfl) (ksG131 _ _ _ _) (hL2.I.2.1 131) rfl (orm298 c21 korm18) (orm274 c13 korm31) ?_
                have r22 : ((l1_2.toInt = 18 → (0 : Int) ≤ ((a2 131).getD l1_2.toNatClampNeg 0).toInt ∧ ((a2 131).getD l1_2.toNatClampNeg 0).toInt ≤ 5)) ∧ ((19 ≤ l1_2.toInt → l1_2.toInt ≤ 24 → (0 : Int) ≤ ((a2 131).getD l1_2.toNatClampNeg 0).toInt ∧ ((a2 131).getD l1_2.toNatClampNeg 0).toInt ≤ 7)) := kE_ncond (p := 131) hL2.I (by decide) (j := l1_2) (orm298 c21 korm18)
                refine ko_iast3 mi_k207.1 (n := 31) (c := 31) (ax := (0, 0, 0, 0, 0)) (mi_k207.2 _ _ (by rfl)) (by rfl) (ksG118 _ _ _ _) (ksA118 _ _ _ _) (hL2.I.2.1 118) rfl (orm298 c21 korm18) (orm274 c13 korm31) ?_
                intro a23 ea23 fa23
                have hJ23 := kG_a3 hL2 118 rfl ea23 fa23 (kE_nset (p := 118) (by decide) (orm298 c21 korm18) (orm299 c21 r22.1 korm18) (orm300 r22.2))
                have s24 : (l1_2 + 1).toInt = l1_2.toInt + (1 : Int32).toInt := kd_add (orm301 c21 korm18 korm1) (orm279 c13 korm31 korm1)
                refine ft_go mi_k207 2 12 [(1, .int (l1_2 + 1)), (2, .int 0), (0, .ref 116)] [] i2 a23 q2 r2 (by rfl) ?_
                refine ko_perm [(1, .int (l1_2 + 1)), (0, .ref 116)] (List.forall_mem_cons.mpr ⟨(List.Mem.head _), (List.forall_mem_cons.mpr ⟨(List.Mem.tail _ (List.Mem.tail _ (List.Mem.head _))), (fun _ h => absurd h List.not_mem_nil)⟩)⟩) ?_
                exact ih2 _ _ _ _ _ hJ23 (orm302 c21 s24 korm18 korm1) (kBk_step O2_0 (hL2.I.2.1 118) (orm298 c21 korm18) (orm274 c13 korm31) (orm303 c21 korm18) (orm155 s24 korm1) (hL2.fa 131 rfl) ea23) (kj_meas (orm282 s24 korm1) (orm283 c13 korm31) hm2)
              ·
                have c25 : l1_2.toInt < (18 : Int32).toInt := kd_leF c; clear c
                have s26 : (l1_2 + 1).toInt = l1_2.toInt + (1 : Int32).toInt := kd_add (orm304 c20 fi2_7449.1 s15 korm10 korm1) (orm279 c13 korm31 korm1)
                refine ft_go mi_k207 7 12 [(1, .int (l1_2 + 1)), (2, .int 1), (0, .ref 116)] [] i2 a2 q2 r2 (by rfl) ?_
                refine ko_perm [(1, .int (l1_2 + 1)), (0, .ref 116)] (List.forall_mem_cons.mpr ⟨(List.Mem.head _), (List.forall_mem_cons.mpr ⟨(List.Mem.tail _ (List.Mem.tail _ (List.Mem.head _))), (fun _ h => absurd h List.not_mem_nil)⟩)⟩) ?_
                exact ih2 _ _ _ _ _ hL2 (orm305 c20 fi2_7449.1 s15 s26 korm10 korm1) (kBk_skip O2_0 (orm306 c20 fi2_7449.1 s15 korm10) (orm307 c20 c25 efi2_7449 s15 korm18 korm10) (orm155 s26 korm1) rfl) (kj_meas (orm282 s26 korm1) (orm283 c13 korm31) hm2)
          ·
            have c27 : l1_2.toInt < (8 : Int32).toInt := kd_leF c; clear c
            have fi2_7449 : ((0 : Int) ≤ (i2 7449).toInt) ∧ ((i2 7449).toInt ≤ 8) := hL2.I.1 7449
            have fi_7449 : ((0 : Int) ≤ (i 7449).toInt) ∧ ((i 7449).toInt ≤ 8) := hG.I.1 7449
            have efi2_7449 : (i2 7449).toInt = (i 7449).toInt := hL2.ti 7449 rfl
            refine ft_go mi_k207 3 29 [(1, .int l1_2), (0, .ref 116)] [.int (i2 7449), .int l1_2] i2 a2 q2 r2 (by rfl) ?_
            refine ft_if mi_k207 (decide ((i2 7449) ≤ l1_2)) 49 32 [(1, .int l1_2), (0, .ref 116)] [] (by rfl) (fun c => ?_) (fun c => ?_)
            ·
              have c28 : (i2 7449).toInt ≤ l1_2.toInt := kd_le c; clear c
              have s29 : (l1_2 + 1).toInt = l1_2.toInt + (1 : Int32).toInt := kd_add (orm98 p2_0 korm1) (orm279 c13 korm31 korm1)
              refine ft_go mi_k207 7 12 [(1, .int (l1_2 + 1)), (2, .int 1), (0, .ref 116)] [] i2 a2 q2 r2 (by rfl) ?_
              refine ko_perm [(1, .int (l1_2 + 1)), (0, .ref 116)] (List.forall_mem_cons.mpr ⟨(List.Mem.head _), (List.forall_mem_cons.mpr ⟨(List.Mem.tail _ (List.Mem.tail _ (List.Mem.head _))), (fun _ h => absurd h List.not_mem_nil)⟩)⟩) ?_
              exact ih2 _ _ _ _ _ hL2 (orm100 p2_0 s29 korm1) (kBk_skip O2_0 (orm0 p2_0) (orm308 c27 c28 efi2_7449 korm8) (orm155 s29 korm1) rfl) (kj_meas (orm282 s29 korm1) (orm283 c13 korm31) hm2)
            ·
              have c30 : l1_2.toInt < (i2 7449).toInt := kd_leF c; clear c
              have s31 : (10 + (i2 7449)).toInt = (10 : Int32).toInt + (i2 7449).toInt := kd_add (orm293 fi2_7449.1 korm10) (orm294 fi2_7449.2 korm10)
              refine ft_go mi_k207 5 40 [(1, .int l1_2), (0, .ref 116)] [.int (10 + (i2 7449)), .int l1_2] i2 a2 q2 r2 (by rfl) ?_
              refine ft_if mi_k207 (decide (l1_2 < (10 + (i2 7449)))) 53 43 [(1, .int l1_2), (0, .ref 116)] [] (by rfl) (fun c => ?_) (fun c => ?_)
              ·
                have c32 : l1_2.toInt < (10 + (i2 7449)).toInt := kd_lt c; clear c
                refine ft_go mi_k207 10 69 [(2, .int 0), (1, .int l1_2), (0, .ref 116)] [.int l1_2, .ref 131, .int l1_2, .ref 118] i2 a2 q2 r2 (by rfl) ?_
                refine ko_iald3 mi_k207.1 (n := 31) (c := 31) (ax := (0, 0, 0, 0, 0)) (mi_k207.2 _ _ (by rfl)) (by rfl) (ksG131 _ _ _ _) (hL2.I.2.1 131) rfl (orm0 p2_0) (orm274 c13 korm31) ?_
                have r33 : ((l1_2.toInt = 18 → (0 : Int) ≤ ((a2 131).getD l1_2.toNatClampNeg 0).toInt ∧ ((a2 131).getD l1_2.toNatClampNeg 0).toInt ≤ 5)) ∧ ((19 ≤ l1_2.toInt → l1_2.toInt ≤ 24 → (0 : Int) ≤ ((a2 131).getD l1_2.toNatClampNeg 0).toInt ∧ ((a2 131).getD l1_2.toNatClampNeg 0).toInt ≤ 7)) := kE_ncond (p := 131) hL2.I (by decide) (j := l1_2) (orm0 p2_0)
                refine ko_iast3 mi_k207.1 (n := 31) (c := 31) (ax := (0, 0, 0, 0, 0)) (mi_k207.2 _ _ (by rfl)) (by rfl) (ksG118 _ _ _ _) (ksA118 _ _ _ _) (hL2.I.2.1 118) rfl (orm0 p2_0) (orm274 c13 korm31) ?_
                intro a34 ea34 fa34
                have hJ34 := kG_a3 hL2 118 rfl ea34 fa34 (kE_nset (p := 118) (by decide) (orm0 p2_0) (orm309 c27 korm8) (orm310 c27 korm8))
                have s35 : (l1_2 + 1).toInt = l1_2.toInt + (1 : Int32).toInt := kd_add (orm98 p2_0 korm1) (orm279 c13 korm31 korm1)
                refine ft_go mi_k207 2 12 [(1, .int (l1_2 + 1)), (2, .int 0), (0, .ref 116)] [] i2 a34 q2 r2 (by rfl) ?_
                refine ko_perm [(1, .int (l1_2 + 1)), (0, .ref 116)] (List.forall_mem_cons.mpr ⟨(List.Mem.head _), (List.forall_mem_cons.mpr ⟨(List.Mem.tail _ (List.Mem.tail _ (List.Mem.head _))), (fun _ h => absurd h List.not_mem_nil)⟩)⟩) ?_
                exact ih2 _ _ _ _ _ hJ34 (orm100 p2_0 s35 korm1) (kBk_step O2_0 (hL2.I.2.1 118) (orm0 p2_0) (orm274 c13 korm31) (orm311 c30 efi2_7449) (orm155 s35 korm1) (hL2.fa 131 rfl) ea34) (kj_meas (orm282 s35 korm1) (orm283 c13 korm31) hm2)
              ·
                have c36 : (10 + (i2 7449)).toInt ≤ l1_2.toInt := kd_ltF c; clear c
                exact (orm312 c30 c36 s31 korm10).elim
    exact lp2 _ _ _ _ _ _ (kG_self _ hG.I hG.R) (orm284 korm0) (kBk_zero rfl korm0) (Nat.lt_succ_self _)
  ·
    have c37 : (i 7448).toInt = (0 : Int32).toInt := kd_neF c; clear c
    refine ft_go mi_k207 1 9 [(0, .ref 116)] [.int (-5)] i a q r (by rfl) ?_
    exact ft_ret mi_k207 (by rfl) (hP (-5) _ _ _ _ hG ⟨trivial, ⟨(fun h => absurd h (orm313 c37 fi_7448.1 korm0)), (fun h => absurd h (orm313 c37 fi_7448.1 korm0)), (fun h => absurd h (orm313 c37 fi_7448.1 korm0)), (fun _ => (show a 118 = a 118 from rfl)), (fun _ => (show a 130 = a 130 from rfl)), (fun _ => (show ((-5) : Int32) = -5 from (by first | rfl | (simp only [sMn, sMx]; done) | (simp only [sMn, sMx]; rfl))))⟩⟩)
