theorem ktow0 : (0 : Int32).toInt = 0 := by decide
theorem ktow1 : (1 : Int32).toInt = 1 := by decide
theorem ktow60 : (60 : Int32).toInt = 60 := by decide
theorem ktow10 : (10 : Int32).toInt = 10 := by decide
theorem ktow9 : (9 : Int32).toInt = 9 := by decide
theorem ktowm2 : ((-2) : Int32).toInt = (-2) := by decide
theorem tow0 {a0 : Int} (h0 : (0 : Int) ≤ a0) : (0 : Int) ≤ a0 := by omega
theorem tow1 {a0 : Int} (h0 : a0 ≤ 5) : a0 < 6 := by omega
theorem tow9 {a0 a1 : Int} (h0 : (a0 / 10) ≤ 5) (h1 : (0 : Int) ≤ a0) (h2 : (a0 % 10) ≤ 5) (h3 : a1 = (a0 / 10)) : ((0 : Int) ≤ a1) ∧ (a1 ≤ 5) := by omega
theorem tow10 {a0 a1 : Int} (h0 : (a0 % 10) ≤ 5) (h1 : a1 = (a0 % 10)) : ((0 : Int) ≤ a1) ∧ (a1 ≤ 5) := by omega
theorem tow11 {a0 : Int} (h0 : a0 ≤ 0) : a0 ≤ 0 := by omega
theorem tow12 {a0 a1 : Int} (h0 : a0 ≤ a1) (h1 : a0 = 0) : ¬ (a1 < 0) := by omega
theorem tow13 {a0 a1 : Int} (h0 : a0 < a1) (h1 : a1 = 0) : a0 ≤ 0 := by omega
theorem tow14 {a0 a1 : Int} (h0 : a0 < a1) (h1 : a1 = 0) : a0 < 0 := by omega
theorem tow23 {a0 a1 : Int} (h0 : (0 : Int) ≤ a0) (h1 : a1 = 1) : (-2147483648 : Int) ≤ a0 + a1 := by omega
theorem tow25 {a0 a1 a2 : Int} (h0 : (0 : Int) ≤ a0) (h1 : a1 = a0 + a2) (h2 : a2 = 1) : (0 : Int) ≤ a1 := by omega
theorem tow27 {a0 : Int}  : a0 = a0 := by omega
theorem tow28 {a0 a1 a2 : Int} (h0 : a0 = a1 + a2) (h1 : a2 = 1) : a0 = a1 + 1 := by omega
theorem tow31 {a0 : Int} (h0 : a0 = 0) : (0 : Int) ≤ a0 := by omega
theorem tow32 {a0 : Int} (h0 : a0 = 0) : a0 = 0 := by omega
theorem tow51 {a0 a1 a2 a3 a4 : Int} (h0 : a0 ≤ a1) (h1 : a2 = a3) (h2 : a4 = a2) (h3 : a0 = a4) : a3 ≤ a1 := by omega
theorem tow52 {a0 : Int} (h0 : a0 = (-2)) : a0 = -2 := by omega
theorem tow53 {a0 a1 a2 a3 a4 : Int} (h0 : a0 < a1) (h1 : a2 = a3) (h2 : a4 = a2) (h3 : a1 = a4) : a0 < a3 := by omega
theorem tow54 {a0 a1 a2 a3 a4 : Int} (h0 : a0 ≤ a1) (h1 : a0 = a2) (h2 : a3 = a4) (h3 : a2 = a3) : a4 ≤ a1 := by omega
theorem tow55 {a0 : Int} (h0 : (0 : Int) ≤ a0) : (-2147483648 : Int) ≤ 60 * a0 := by omega
theorem tow56 {a0 : Int} (h0 : a0 ≤ 5) : 60 * a0 ≤ 2147483647 := by omega
theorem tow57 {a0 a1 a2 : Int} (h0 : (0 : Int) ≤ a0) (h1 : (0 : Int) ≤ a1) (h2 : a2 = 60 * a0) : (-2147483648 : Int) ≤ a2 + a1 := by omega
theorem tow61 {a0 : Int} (h0 : (0 : Int) ≤ a0) (h1 : a0 ≤ 5) : ((0 : Int) ≤ a0) ∧ (a0 ≤ 5) := by omega
theorem tow62 {a0 a1 : Int} (h0 : a0 < a1) (h1 : (0 : Int) ≤ a0) (h2 : a1 ≤ 60) : ((0 : Int) ≤ a0) ∧ (a0 ≤ 59) := by omega
theorem tow63 {a0 a1 a2 : Int} (h0 : a0 < a1) (h1 : a1 ≤ 60) (h2 : a2 = 1) : a0 + a2 ≤ 2147483647 := by omega
theorem tow64 {a0 a1 a2 a3 a4 : Int} (h0 : a0 < a1) (h1 : a1 = a2) (h2 : a3 = a4) (h3 : a2 = a3) : a0 < a4 := by omega
theorem tow65 {a0 a1 a2 a3 : Int} (h0 : a0 < a1) (h1 : a2 ≤ 5) (h2 : a1 ≤ 60) (h3 : a3 = 60 * a2) : a3 + a0 ≤ 2147483647 := by omega
theorem tow66 {a0 a1 a2 a3 : Int} (h0 : a0 = 60 * a1) (h1 : a2 = a0 + a3) : a2 = 60 * a1 + a3 := by omega
theorem tow67 {a0 a1 a2 : Int} (h0 : a0 = a1) (h1 : a0 = a2) (h2 : a1 = 9) : a2 = 9 := by omega
theorem tow68 {a0 a1 a2 : Int} (h0 : a0 = a1 + a2) (h1 : a2 = 1) : (60 - a0) < (60 - a1) := by omega
theorem tow69 {a0 a1 : Int} (h0 : a0 < a1) (h1 : a1 ≤ 60) : (1 : Int) ≤ (60 - a0) := by omega
theorem tow70 {a0 a1 : Int} (h0 : a0 < a1) (h1 : a1 ≤ 21) : a0 < 21 := by omega
theorem tow71 {a0 a1 a2 : Int} (h0 : a0 = a1) (h1 : a0 = a2) : a2 = a1 := by omega
theorem tow72 {a0 a1 a2 : Int} (h0 : a0 ≠ a1) (h1 : a0 = a2) (h2 : a1 = 9) : ¬ (a2 = 9) := by omega
theorem tow73 {a0 a1 a2 : Int} (h0 : a0 ≠ a1) (h1 : a0 = a2) : ¬ (a2 = a1) := by omega
theorem tow84 {a0 : Int} (h0 : (0 : Int) ≤ (a0 / 10)) (h1 : (a0 / 10) ≤ 5) : ((0 : Int) ≤ (a0 / 10)) ∧ ((a0 / 10) ≤ 5) := by omega
theorem tow85 {a0 : Int} (h0 : (a0 % 10) ≤ 5) : (a0 % 10) ≤ 5 := by omega
theorem tow124 {a0 a1 : Int} (h0 : a0 = (a1 / 10)) (h1 : (0 : Int) ≤ a1) (h2 : (a1 / 10) ≤ 5) (h3 : (a1 % 10) ≤ 5) : ((0 : Int) ≤ a0) ∧ (a0 ≤ 5) := by omega
theorem tow125 {a0 a1 : Int} (h0 : a0 = (a1 % 10)) (h1 : (a1 % 10) ≤ 5) : ((0 : Int) ≤ a0) ∧ (a0 ≤ 5) := by omega
theorem tow126 {a0 : Int} (h0 : (0 : Int) ≤ a0) (h1 : (0 : Int) ≤ (a0 / 10)) (h2 : (a0 / 10) ≤ 5) (h3 : (a0 % 10) ≤ 5) : ((0 : Int) ≤ a0) ∧ (((0 : Int) ≤ (a0 / 10)) ∧ ((a0 / 10) ≤ 5)) ∧ ((a0 % 10) ≤ 5) := by omega
theorem tow127 {a0 a1 : Int} (h0 : a0 = (a1 / 10)) (h1 : (0 : Int) ≤ a1) : (0 : Int) ≤ a0 := by omega
theorem tow128 {a0 a1 : Int} (h0 : a0 = (a1 / 10)) (h1 : (a1 / 10) ≤ 5) (h2 : (a1 % 10) ≤ 5) : a0 ≤ 5 := by omega
theorem tow129 {a0 : Int} (h0 : ¬ (((0 : Int) ≤ a0) ∧ (((0 : Int) ≤ (a0 / 10)) ∧ ((a0 / 10) ≤ 5)) ∧ ((a0 % 10) ≤ 5))) : ¬ (((0 : Int) ≤ a0) ∧ (((0 : Int) ≤ (a0 / 10)) ∧ ((a0 / 10) ≤ 5)) ∧ ((a0 % 10) ≤ 5)) := by omega
set_option maxRecDepth 100000 in
theorem kg191_116 {i : Nat → Int32} {a : Nat → List Int32} {q : Nat → List Int64} {r : Nat → Nat} (hI : kI i a q) (hr : kr r) (x1 : Int32) (hp0 : ((0 : Int) ≤ (x1.toInt / 10)) ∧ ((x1.toInt / 10) ≤ 5)) (hp1 : (0 : Int) ≤ x1.toInt) (hp2 : (x1.toInt % 10) ≤ 5) : km 3 191 [.ref 116, .int x1] (ks i a q r) (kPI (ks i a q r) (fun v => (v.toInt ≤ 0) ∧ rNr a (x1 / 10) (x1 - x1 / 10 * 10) v)) := by
  have hG := kG_self kW0 hI hr
  refine km_ofPI (q := (mi_h191, mi_c191)) rfl (by decide) (Nat.le_of_ble_eq_true rfl) ?_
  intro P hP
  have s1 : (x1 / 10).toInt = (x1.toInt / 10) := kd_div 10 ktow10 (by decide) (tow0 hp1)
  refine ft_go mi_k191 4 5 [(0, .ref 116), (1, .int x1)] [.int (x1 / 10), .ref 116] i a q r (by rfl) ?_
  refine ko_callPI mi_k191.1 (pc := 5) (ls := [(0, .ref 116), (1, .int x1)]) (st := [.int (x1 / 10), .ref 116]) (h := ks i a q r) (i := (.invokevirtual 276, 3, 173, 0, 9, 0, 410)) (mi_k191.2 _ _ (by rfl)) (ft_invS mi_pq173 (by rfl)) (cy := mi_c173) mi_pq173 rfl (kg173_116 hG.I hG.R (x1 / 10) (tow9 hp0.2 hp1 hp2 s1)) (by decide) ?_
  intro vg2 hg2
  obtain ⟨hg2, og2⟩ := hg2
  have z3 : vg2.toInt ≤ 0 := hg2
  refine ft_go mi_k191 2 10 [(2, .int vg2), (0, .ref 116), (1, .int x1)] [.int vg2] i a q r (by rfl) ?_
  refine ft_if mi_k191 (decide (0 ≤ vg2)) 17 13 [(2, .int vg2), (0, .ref 116), (1, .int x1)] [] (by rfl) (fun c => ?_) (fun c => ?_)
  ·
    have c4 : (0 : Int32).toInt ≤ vg2.toInt := kd_le c; clear c
    have s5 : (x1 - x1 / 10 * 10).toInt = (x1.toInt % 10) := kd_rem 10 ktow10 (by decide) (tow0 hp1)
    refine ft_go mi_k191 4 22 [(2, .int vg2), (0, .ref 116), (1, .int x1)] [.int (x1 - x1 / 10 * 10), .ref 116] i a q r (by rfl) ?_
    refine ko_callPI mi_k191.1 (pc := 22) (ls := [(2, .int vg2), (0, .ref 116), (1, .int x1)]) (st := [.int (x1 - x1 / 10 * 10), .ref 116]) (h := ks i a q r) (i := (.invokevirtual 276, 3, 173, 0, 9, 0, 410)) (mi_k191.2 _ _ (by rfl)) (ft_invS mi_pq173 (by rfl)) (cy := mi_c173) mi_pq173 rfl (kg173_116 hG.I hG.R (x1 - x1 / 10 * 10) (tow10 hp2 s5)) (by decide) ?_
    intro vg6 hg6
    obtain ⟨hg6, og6⟩ := hg6
    have z7 : vg6.toInt ≤ 0 := hg6
    exact ft_ret mi_k191 (by rfl) (hP vg6 ⟨(tow11 z7), (rNr_2 og2 (tow12 c4 ktow0) og6)⟩)
  ·
    have c8 : vg2.toInt < (0 : Int32).toInt := kd_leF c; clear c
    refine ft_go mi_k191 2 25 [(2, .int vg2), (0, .ref 116), (1, .int x1)] [.int vg2] i a q r (by rfl) ?_
    exact ft_ret mi_k191 (by rfl) (hP vg2 ⟨(tow13 c8 ktow0), (rNr_1 og2 (tow14 c8 ktow0))⟩)
def ygw192_116 : kW := ([7464, 7465, 7466, 7467], [118, 128, 129, 139, 141, 143, 144, 145], [], [])
set_option maxRecDepth 100000 in
theorem kg192_116 {i : Nat → Int32} {a : Nat → List Int32} {q : Nat → List Int64} {r : Nat → Nat} (hI : kI i a q) (hr : kr r) (x1 : Int32) (hp0 : ((0 : Int) ≤ x1.toInt) ∧ (x1.toInt ≤ 5)) (hE_code : kCode i a) : km 13 192 [.ref 116, .int x1] (ks i a q r) (kVI ygw192_116 i a q r (fun v i1 a1 q1 r1 => (True) ∧ (a1 118 = a 118 ∧ fJd (gKn i a) (gR i a) (i 7469).toInt (a 142) ((a 137).getD x1.toNatClampNeg 0).toInt (fun j => (vQ (q 138) (60 * x1.toInt).toNat j).toInt) v))) := by
  have hG := kG_self ygw192_116 hI hr
  refine km_ofI (q := (mi_h192, mi_c192)) rfl (by decide) (Nat.le_of_ble_eq_true rfl) ?_
  intro P hP
  refine ft_go mi_k192 1 1 [(0, .ref 116), (1, .int x1)] [.ref 116] i a q r (by rfl) ?_
  refine ko_callN mi_k192.1 (pc := 1) (ls := [(0, .ref 116), (1, .int x1)]) (st := [.ref 116]) (h := ks i a q r) (i := (.invokevirtual 267, 3, 171, 0, 9, 0, 412)) (mi_k192.2 _ _ (by rfl)) (ft_invS mi_pq171 (by rfl)) (cy := mi_c171) mi_pq171 rfl (kg171_116 hG.I hG.R ) (by decide) ?_
  intro ig1 ag1 qg1 rg1 kg1 hg1
  have hGg1 := kG_call hG kg1 (by decide +kernel)
  obtain ⟨hg1, og1⟩ := hg1
  have tG2 : gT ig1 ag1 = gR i a := (gT_R (og1.2.1.trans rfl) (kg1.fi 7464 rfl) (kg1.fi 7465 rfl) (kg1.fi 7466 rfl) og1.2.2.1 og1.2.2.2)
  have q3 : ag1 139 = a 118 := og1.1
  have q4 : ag1 118 = a 118 := og1.2.1
  have q5 : ig1 7467 = 0 := og1.2.2.1
  have q6 : ag1 141 = List.replicate 64 0 := og1.2.2.2
  refine ft_go mi_k192 1 5 [(0, .ref 116), (1, .int x1)] [.ref 116] ig1 ag1 qg1 rg1 (by rfl) ?_
  refine ko_callN mi_k192.1 (pc := 5) (ls := [(0, .ref 116), (1, .int x1)]) (st := [.ref 116]) (h := ks ig1 ag1 qg1 rg1) (i := (.invokevirtual 270, 3, 170, 0, 9, 0, 414)) (mi_k192.2 _ _ (by rfl)) (ft_invS mi_pq170 (by rfl)) (cy := mi_c170) mi_pq170 rfl (kg170_116 hGg1.I hGg1.R (kCode_of (i1 := ig1) hE_code (hGg1.fi 7432 rfl) (hGg1.fa 120 rfl) (hGg1.fa 121 rfl) (hGg1.fa 122 rfl) (hGg1.fa 123 rfl))) (by decide) ?_
  intro ig7 ag7 qg7 rg7 kg7 hg7
  have hGg7 := kG_call hGg1 kg7 (by decide +kernel)
  obtain ⟨hg7, og7⟩ := hg7
  have oG8 := og7
  rw [(gKn_fr hGg1 (by decide +kernel) : gKn ig1 ag1 = gKn i a), (tG2 : gT ig1 ag1 = gR i a)] at oG8
  rw [((kg1.fa 142 rfl) : ag1 142 = a 142), ((kg1.fi 7469 rfl) : ig1 7469 = i 7469)] at oG8
  have tG9 : gT ig7 ag7 = gAt (gKn i a) (a 142) (gR i a) (i 7469).toInt.toNat := oG8.1
  refine ft_go mi_k192 4 14 [(0, .ref 116), (1, .int x1)] [.int 0, .ref 139, .ref 116] ig7 ag7 qg7 rg7 (by rfl) ?_
  refine ko_callN mi_k192.1 (pc := 14) (ls := [(0, .ref 116), (1, .int x1)]) (st := [.int 0, .ref 139, .ref 116]) (h := ks ig7 ag7 qg7 rg7) (i := (.invokevirtual 273, 3, 169, 0, 9, 0, 423)) (mi_k192.2 _ _ (by rfl)) (ft_invS mi_pq169 (by rfl)) (cy := mi_c169) mi_pq169 rfl (ke169_116_139 hGg7.I hGg7.R 0 (tow32 ktow0)) (by decide) ?_
  intro ig10 ag10 qg10 rg10 kg10 hg10
  have hGg10 := kG_call hGg7 kg10 (by decide +kernel)
  obtain ⟨hg10, og10⟩ := hg10
  have q11 : ag10 118 = ag7 139 := og10
  refine ft_go mi_k192 2 19 [(2, .int 0), (0, .ref 116), (1, .int x1)] [] ig10 ag10 qg10 rg10 (by rfl) ?_
  have lp12 : ∀ (nz : Nat) (l2_12 : Int32), (0 : Int) ≤ l2_12.toInt → uNo (i 7469).toInt (fun j => (vQ (q 138) (60 * x1.toInt).toNat j).toInt) (fun j => ((gAt (gKn i a) (a 142) (gR i a) (j + 1)).2.1).toInt) l2_12.toInt → gOp (gKn i a) (a 142) (gR i a) (i 7469).toInt (ag10 143) (ag10 144) (ag10 145) → ag10 118 = a 118 → ((60 - l2_12.toInt)).toNat < nz → ko 13 (mi_h192, mi_c192) P (19, [(2, .int l2_12), (0, .ref 116), (1, .int x1)], [], (0, 0), ks ig10 ag10 qg10 rg10) := by
    intro nz
    induction nz with
    | zero =>
      intro _ _ _ _ _ hm
      exact absurd hm (Nat.not_lt_zero _)
    | succ nz ih12 =>
      intro l2_12 p12_0 O12_0 O12_1 O12_2 hm12
      refine ft_go mi_k192 4 25 [(2, .int l2_12), (0, .ref 116), (1, .int x1)] [.int x1, .ref 137, .int l2_12] ig10 ag10 qg10 rg10 (by rfl) ?_
      refine ko_iald3 mi_k192.1 (n := 6) (c := 6) (ax := (0, 0, 0, 0, 0)) (mi_k192.2 _ _ (by rfl)) (by rfl) (ksG137 _ _ _ _) (hGg10.I.2.1 137) rfl (tow0 hp0.1) (tow1 hp0.2) ?_
      have r13 : ((0 : Int) ≤ ((ag10 137).getD x1.toNatClampNeg 0).toInt) ∧ (((ag10 137).getD x1.toNatClampNeg 0).toInt ≤ 60) := hGg10.I.2.2.1 137 (x1.toNatClampNeg)
      have u14 : ((ag1 137).getD x1.toNatClampNeg 0).toInt = ((a 137).getD x1.toNatClampNeg 0).toInt := congrArg (fun z : List Int32 => (z.getD x1.toNatClampNeg 0).toInt) (kg1.fa 137 rfl)
      have u15 : ((ag7 137).getD x1.toNatClampNeg 0).toInt = ((ag1 137).getD x1.toNatClampNeg 0).toInt := congrArg (fun z : List Int32 => (z.getD x1.toNatClampNeg 0).toInt) (kg7.fa 137 rfl)
      have u16 : ((ag10 137).getD x1.toNatClampNeg 0).toInt = ((ag7 137).getD x1.toNatClampNeg 0).toInt := congrArg (fun z : List Int32 => (z.getD x1.toNatClampNeg 0).toInt) (kg10.fa 137 rfl)
      refine ft_if mi_k192 (decide (((ag10 137).getD x1.toNatClampNeg 0) ≤ l2_12)) 71 29 [(2, .int l2_12), (0, .ref 116), (1, .int x1)] [] (by rfl) (fun c => ?_) (fun c => ?_)
      ·
        have c17 : ((ag10 137).getD x1.toNatClampNeg 0).toInt ≤ l2_12.toInt := kd_le c; clear c
        refine ft_go mi_k192 1 73 [(2, .int l2_12), (0, .ref 116), (1, .int x1)] [.int (-2)] ig10 ag10 qg10 rg10 (by rfl) ?_
        have fi_7469 : ((0 : Int) ≤ (i 7469).toInt) ∧ ((i 7469).toInt ≤ 21) := hG.I.1 7469
        exact ft_ret mi_k192 (by rfl) (hP (-2) _ _ _ _ hGg10 ⟨trivial, ⟨(show ag10 118 = a 118 from (by first | rfl | (simp only [q11, kg7.fa 139 rfl, q3, sMn, sMx]; done) | (simp only [q11, kg7.fa 139 rfl, q3, sMn, sMx]; rfl))), (fUn_no O12_0 (tow51 c17 u14 u15 u16) (tow52 ktowm2))⟩⟩)
      ·
        have c18 : l2_12.toInt < ((ag10 137).getD x1.toNatClampNeg 0).toInt := kd_leF c; clear c
        have fig10_7469 : ((0 : Int) ≤ (ig10 7469).toInt) ∧ ((ig10 7469).toInt ≤ 21) := hGg10.I.1 7469
        have fig7_7469 : ((0 : Int) ≤ (ig7 7469).toInt) ∧ ((ig7 7469).toInt ≤ 21) := hGg7.I.1 7469
        have fig1_7469 : ((0 : Int) ≤ (ig1 7469).toInt) ∧ ((ig1 7469).toInt ≤ 21) := hGg1.I.1 7469
        have fi_7469 : ((0 : Int) ≤ (i 7469).toInt) ∧ ((i 7469).toInt ≤ 21) := hG.I.1 7469
        have efig1_7469 : (ig1 7469).toInt = (i 7469).toInt := kg1.ti 7469 rfl
        have efig7_7469 : (ig7 7469).toInt = (ig1 7469).toInt := kg7.ti 7469 rfl
        have efig10_7469 : (ig10 7469).toInt = (ig7 7469).toInt := kg10.ti 7469 rfl
        refine ft_go mi_k192 3 34 [(2, .int l2_12), (0, .ref 116), (1, .int x1)] [.int (ig10 7469), .int l2_12] ig10 ag10 qg10 rg10 (by rfl) ?_
        refine ft_if mi_k192 (decide ((ig10 7469) ≤ l2_12)) 63 37 [(2, .int l2_12), (0, .ref 116), (1, .int x1)] [] (by rfl) (fun c => ?_) (fun c => ?_)
        ·
          have c19 : (ig10 7469).toInt ≤ l2_12.toInt := kd_le c; clear c
          refine ft_go mi_k192 1 64 [(2, .int l2_12), (0, .ref 116), (1, .int x1)] [.int l2_12] ig10 ag10 qg10 rg10 (by rfl) ?_
          exact ft_ret mi_k192 (by rfl) (hP l2_12 _ _ _ _ hGg10 ⟨trivial, ⟨(show ag10 118 = a 118 from (by first | rfl | (simp only [q11, kg7.fa 139 rfl, q3, sMn, sMx]; done) | (simp only [q11, kg7.fa 139 rfl, q3, sMn, sMx]; rfl))), (fUn_end O12_0 (tow0 p12_0) (tow53 c18 u14 u15 u16) tow27 (tow54 c19 efig10_7469 efig1_7469 efig7_7469))⟩⟩)
        ·
          have c20 : l2_12.toInt < (ig10 7469).toInt := kd_leF c; clear c
          refine ft_go mi_k192 3 40 [(2, .int l2_12), (0, .ref 116), (1, .int x1)] [.int l2_12, .int x1, .ref 116] ig10 ag10 qg10 rg10 (by rfl) ?_
          refine ko_callPI mi_k192.1 (pc := 40) (ls := [(2, .int l2_12), (0, .ref 116), (1, .int x1)]) (st := [.int l2_12, .int x1, .ref 116]) (h := ks ig10 ag10 qg10 rg10) (i := (.invokevirtual 133, 3, 137, 0, 9, 0, 384)) (mi_k192.2 _ _ (by rfl)) (ft_invS mi_pq137 (by rfl)) (cy := mi_c137) mi_pq137 rfl (kc137_116 hGg10.I hGg10.R x1 l2_12 (tow61 hp0.1 hp0.2) (tow62 c18 p12_0 r13.2)) (by decide) ?_
          intro vg21 hg21
          have z22 : vg21.toInt = (((qg10 138).getD ((60 * x1) + l2_12).toNatClampNeg 0).toInt32).toInt := hg21
          refine ft_go mi_k192 1 45 [(2, .int l2_12), (0, .ref 116), (1, .int x1)] [.int 9, .int vg21] ig10 ag10 qg10 rg10 (by rfl) ?_
          refine ft_if mi_k192 (vg21 == 9) 65 48 [(2, .int l2_12), (0, .ref 116), (1, .int x1)] [] (by rfl) (fun c => ?_) (fun c => ?_)
          ·
            have c23 : vg21.toInt = (9 : Int32).toInt := kd_eq c; clear c
            have s24 : (l2_12 + 1).toInt = l2_12.toInt + (1 : Int32).toInt := kd_add (tow23 p12_0 ktow1) (tow63 c18 r13.2 ktow1)
            refine ft_go mi_k192 2 19 [(2, .int (l2_12 + 1)), (0, .ref 116), (1, .int x1)] [] ig10 ag10 qg10 rg10 (by rfl) ?_
            have s25 : (60 * x1).toInt = 60 * x1.toInt := kd_cmul 60 ktow60 (tow55 hp0.1) (tow56 hp0.2)
            have s26 : ((60 * x1) + l2_12).toInt = (60 * x1).toInt + l2_12.toInt := kd_add (tow57 hp0.1 p12_0 s25) (tow65 c18 hp0.2 r13.2 s25)
            exact ih12 _ (tow25 p12_0 s24 ktow1) (uNo_9r O12_0 (tow0 p12_0) (tow28 s24 ktow1) (tow64 c20 efig10_7469 efig1_7469 efig7_7469) (uCr (kj_b60y (kj_b60 (tow0 hp0.1)) (tow66 s25 s26)) (tow0 p12_0) (congrArg (fun z : List Int64 => (z.getD ((60 * x1) + l2_12).toNatClampNeg 0).toInt32) (hGg10.fq 138 rfl : qg10 138 = q 138))) (tow67 c23 z22 ktow9)) O12_1 (by first | rfl | (simp only [q11, kg7.fa 139 rfl, q3, sMn, sMx]; done) | (simp only [q11, kg7.fa 139 rfl, q3, sMn, sMx]; rfl)) (kj_meas (tow68 s24 ktow1) (tow69 c18 r13.2) hm12)
          ·
            have c27 : vg21.toInt ≠ (9 : Int32).toInt := kd_eqF c; clear c
            refine ft_go mi_k192 3 51 [(2, .int l2_12), (0, .ref 116), (1, .int x1)] [.int l2_12, .int x1, .ref 116] ig10 ag10 qg10 rg10 (by rfl) ?_
            refine ko_callPI mi_k192.1 (pc := 51) (ls := [(2, .int l2_12), (0, .ref 116), (1, .int x1)]) (st := [.int l2_12, .int x1, .ref 116]) (h := ks ig10 ag10 qg10 rg10) (i := (.invokevirtual 133, 3, 137, 0, 9, 0, 384)) (mi_k192.2 _ _ (by rfl)) (ft_invS mi_pq137 (by rfl)) (cy := mi_c137) mi_pq137 rfl (kc137_116 hGg10.I hGg10.R x1 l2_12 (tow61 hp0.1 hp0.2) (tow62 c18 p12_0 r13.2)) (by decide) ?_
            intro vg28 hg28
            have z29 : vg28.toInt = (((qg10 138).getD ((60 * x1) + l2_12).toNatClampNeg 0).toInt32).toInt := hg28
            refine ft_go mi_k192 3 59 [(2, .int l2_12), (0, .ref 116), (1, .int x1)] [.int l2_12, .ref 143, .int vg28] ig10 ag10 qg10 rg10 (by rfl) ?_
            refine ko_iald3 mi_k192.1 (n := 21) (c := 21) (ax := (0, 0, 0, 0, 0)) (mi_k192.2 _ _ (by rfl)) (by rfl) (ksG143 _ _ _ _) (hGg10.I.2.1 143) rfl (tow0 p12_0) (tow70 c20 fig10_7469.2) ?_
            refine ft_if mi_k192 (vg28 == ((ag10 143).getD l2_12.toNatClampNeg 0)) 65 63 [(2, .int l2_12), (0, .ref 116), (1, .int x1)] [] (by rfl) (fun c => ?_) (fun c => ?_)
            ·
              have c30 : vg28.toInt = ((ag10 143).getD l2_12.toNatClampNeg 0).toInt := kd_eq c; clear c
              have s31 : (l2_12 + 1).toInt = l2_12.toInt + (1 : Int32).toInt := kd_add (tow23 p12_0 ktow1) (tow63 c18 r13.2 ktow1)
              refine ft_go mi_k192 2 19 [(2, .int (l2_12 + 1)), (0, .ref 116), (1, .int x1)] [] ig10 ag10 qg10 rg10 (by rfl) ?_
              have s32 : (60 * x1).toInt = 60 * x1.toInt := kd_cmul 60 ktow60 (tow55 hp0.1) (tow56 hp0.2)
              have s33 : ((60 * x1) + l2_12).toInt = (60 * x1).toInt + l2_12.toInt := kd_add (tow57 hp0.1 p12_0 s32) (tow65 c18 hp0.2 r13.2 s32)
              exact ih12 _ (tow25 p12_0 s31 ktow1) (uNo_yr O12_0 (tow0 p12_0) (tow28 s31 ktow1) (tow64 c20 efig10_7469 efig1_7469 efig7_7469) (uCr (kj_b60y (kj_b60 (tow0 hp0.1)) (tow66 s32 s33)) (tow0 p12_0) (congrArg (fun z : List Int64 => (z.getD ((60 * x1) + l2_12).toNatClampNeg 0).toInt32) (hGg10.fq 138 rfl : qg10 138 = q 138))) (gOp_py O12_1 (tow0 p12_0) (tow64 c20 efig10_7469 efig1_7469 efig7_7469)) (tow71 c30 z29)) O12_1 (by first | rfl | (simp only [q11, kg7.fa 139 rfl, q3, sMn, sMx]; done) | (simp only [q11, kg7.fa 139 rfl, q3, sMn, sMx]; rfl)) (kj_meas (tow68 s31 ktow1) (tow69 c18 r13.2) hm12)
            ·
              have c34 : vg28.toInt ≠ ((ag10 143).getD l2_12.toNatClampNeg 0).toInt := kd_eqF c; clear c
              refine ft_go mi_k192 1 64 [(2, .int l2_12), (0, .ref 116), (1, .int x1)] [.int l2_12] ig10 ag10 qg10 rg10 (by rfl) ?_
              have s35 : (60 * x1).toInt = 60 * x1.toInt := kd_cmul 60 ktow60 (tow55 hp0.1) (tow56 hp0.2)
              have s36 : ((60 * x1) + l2_12).toInt = (60 * x1).toInt + l2_12.toInt := kd_add (tow57 hp0.1 p12_0 s35) (tow65 c18 hp0.2 r13.2 s35)
              exact ft_ret mi_k192 (by rfl) (hP l2_12 _ _ _ _ hGg10 ⟨trivial, ⟨(show ag10 118 = a 118 from (by first | rfl | (simp only [q11, kg7.fa 139 rfl, q3, sMn, sMx]; done) | (simp only [q11, kg7.fa 139 rfl, q3, sMn, sMx]; rfl))), (fUn_atr O12_0 (tow0 p12_0) (tow53 c18 u14 u15 u16) tow27 (uCr (kj_b60y (kj_b60 (tow0 hp0.1)) (tow66 s35 s36)) (tow0 p12_0) (congrArg (fun z : List Int64 => (z.getD ((60 * x1) + l2_12).toNatClampNeg 0).toInt32) (hGg10.fq 138 rfl : qg10 138 = q 138))) (gOp_py O12_1 (tow0 p12_0) (tow64 c20 efig10_7469 efig1_7469 efig7_7469)) ⟨(tow72 c27 z22 ktow9), (tow73 c34 z29)⟩)⟩⟩)
  exact lp12 _ _ (tow31 ktow0) (uNo_0 ktow0) (gOp_c oG8.2 ((kg10.fa 143 rfl) : ag10 143 = ag7 143) ((kg10.fa 144 rfl) : ag10 144 = ag7 144) ((kg10.fa 145 rfl) : ag10 145 = ag7 145)) (by first | rfl | (simp only [q11, kg7.fa 139 rfl, q3, sMn, sMx]; done) | (simp only [q11, kg7.fa 139 rfl, q3, sMn, sMx]; rfl)) (Nat.lt_succ_self _)
def yzw193_116 : kW := ([7464, 7465, 7466, 7467, 7469], [118, 128, 129, 139, 141, 142, 143, 144, 145], [], [])
set_option maxRecDepth 100000 in
theorem kz193_116 {i : Nat → Int32} {a : Nat → List Int32} {q : Nat → List Int64} {r : Nat → Nat} (hI : kI i a q) (hr : kr r) (x1 : Int32) (hE_code : kCode i a) : km 15 193 [.ref 116, .int x1] (ks i a q r) (kVI yzw193_116 i a q r (fun v i1 a1 q1 r1 => (True) ∧ (a1 118 = a 118 ∧ rTop (((0 : Int) ≤ x1.toInt) ∧ (((0 : Int) ≤ (x1.toInt / 10)) ∧ ((x1.toInt / 10) ≤ 5)) ∧ ((x1.toInt % 10) ≤ 5)) i a q (x1 / 10) v (fun n L => rSe a (x1 - x1 / 10 * 10) v (fJd (gKn i a) (gR i a) n L ((a 137).getD (x1 - x1 / 10 * 10).toNatClampNeg 0).toInt (fun j => (vQ (q 138) (60 * (x1 - x1 / 10 * 10).toInt).toNat j).toInt) v))))) := by
  have hG := kG_self yzw193_116 hI hr
  refine km_ofI (q := (mi_h193, mi_c193)) rfl (by decide) (Nat.le_of_ble_eq_true rfl) ?_
  intro P hP
  refine ft_go mi_k193 2 2 [(0, .ref 116), (1, .int x1)] [.int x1, .ref 116] i a q r (by rfl) ?_
  refine ko_callPI mi_k193.1 (pc := 2) (ls := [(0, .ref 116), (1, .int x1)]) (st := [.int x1, .ref 116]) (h := ks i a q r) (i := (.invokevirtual 314, 3, 190, 0, 9, 0, 442)) (mi_k193.2 _ _ (by rfl)) (ft_invS mi_pq190 (by rfl)) (cy := mi_c190) mi_pq190 rfl (kc190_116 hG.I hG.R x1) (by decide) ?_
  intro vg1 hg1
  rcases hg1 with ⟨eg1, hg1⟩ | ⟨eg1, hg1⟩
  ·
    subst eg1
    have z2 : ((0 : Int) ≤ x1.toInt) ∧ (((0 : Int) ≤ (x1.toInt / 10)) ∧ ((x1.toInt / 10) ≤ 5)) ∧ ((x1.toInt % 10) ≤ 5) := hg1
    refine ft_go mi_k193 3 12 [(0, .ref 116), (1, .int x1)] [.int x1, .ref 116] i a q r (by rfl) ?_
    refine ko_callPI mi_k193.1 (pc := 12) (ls := [(0, .ref 116), (1, .int x1)]) (st := [.int x1, .ref 116]) (h := ks i a q r) (i := (.invokevirtual 317, 3, 191, 0, 9, 0, 443)) (mi_k193.2 _ _ (by rfl)) (ft_invS mi_pq191 (by rfl)) (cy := mi_c191) mi_pq191 rfl (kg191_116 hG.I hG.R x1 (tow84 z2.2.1.1 z2.2.1.2) (tow0 z2.1) (tow85 z2.2.2)) (by decide) ?_
    intro vg3 hg3
    obtain ⟨hg3, og3⟩ := hg3
    have z4 : vg3.toInt ≤ 0 := hg3
    refine ft_go mi_k193 2 17 [(2, .int vg3), (0, .ref 116), (1, .int x1)] [.int vg3] i a q r (by rfl) ?_
    refine ft_if mi_k193 (decide (0 ≤ vg3)) 22 20 [(2, .int vg3), (0, .ref 116), (1, .int x1)] [] (by rfl) (fun c => ?_) (fun c => ?_)
    ·
      have c5 : (0 : Int32).toInt ≤ vg3.toInt := kd_le c; clear c
      have s6 : (x1 / 10).toInt = (x1.toInt / 10) := kd_div 10 ktow10 (by decide) (tow0 z2.1)
      refine ft_go mi_k193 4 27 [(2, .int vg3), (0, .ref 116), (1, .int x1)] [.int (x1 / 10), .ref 116] i a q r (by rfl) ?_
      refine ko_callN mi_k193.1 (pc := 27) (ls := [(2, .int vg3), (0, .ref 116), (1, .int x1)]) (st := [.int (x1 / 10), .ref 116]) (h := ks i a q r) (i := (.invokevirtual 279, 3, 174, 0, 9, 0, 411)) (mi_k193.2 _ _ (by rfl)) (ft_invS mi_pq174 (by rfl)) (cy := mi_c174) mi_pq174 rfl (kg174_116 hG.I hG.R (x1 / 10) (tow124 s6 z2.1 z2.2.1.2 z2.2.2)) (by decide) ?_
      intro ig7 ag7 qg7 rg7 kg7 hg7
      have hGg7 := kG_call hG kg7 (by decide +kernel)
      obtain ⟨hg7, og7⟩ := hg7
      have fig7_7469 : ((0 : Int) ≤ (ig7 7469).toInt) ∧ ((ig7 7469).toInt ≤ 21) := hGg7.I.1 7469
      have z8 : (ig7 7469).toInt ≤ 20 := hg7
      have s9 : (x1 - x1 / 10 * 10).toInt = (x1.toInt % 10) := kd_rem 10 ktow10 (by decide) (tow0 z2.1)
      refine ft_go mi_k193 4 35 [(2, .int vg3), (0, .ref 116), (1, .int x1)] [.int (x1 - x1 / 10 * 10), .ref 116] ig7 ag7 qg7 rg7 (by rfl) ?_
      refine ko_callI mi_k193.1 (pc := 35) (ls := [(2, .int vg3), (0, .ref 116), (1, .int x1)]) (st := [.int (x1 - x1 / 10 * 10), .ref 116]) (h := ks ig7 ag7 qg7 rg7) (i := (.invokevirtual 320, 3, 192, 0, 9, 0, 444)) (mi_k193.2 _ _ (by rfl)) (ft_invS mi_pq192 (by rfl)) (cy := mi_c192) mi_pq192 rfl (kg192_116 hGg7.I hGg7.R (x1 - x1 / 10 * 10) (tow125 s9 z2.2.2) (kCode_of (i1 := ig7) hE_code (hGg7.fi 7432 rfl) (hGg7.fa 120 rfl) (hGg7.fa 121 rfl) (hGg7.fa 122 rfl) (hGg7.fa 123 rfl))) (by decide) ?_
      intro vg10 ig10 ag10 qg10 rg10 kg10 hg10
      have hGg10 := kG_call hGg7 kg10 (by decide +kernel)
      obtain ⟨hg10, og10⟩ := hg10
      have oU11 := og10.2
      rw [(gKn_fr hGg7 (by decide +kernel) : gKn ig7 ag7 = gKn i a), (gR_eq (kg7.fa 118 rfl) (kg7.fi 7464 rfl) (kg7.fi 7465 rfl) (kg7.fi 7466 rfl) : gR ig7 ag7 = gR i a), ((kg7.fa 137 rfl) : ag7 137 = a 137), (hGg7.fq 138 rfl : qg7 138 = q 138)] at oU11
      have q12 : ag10 118 = ag7 118 := og10.1
      have r13 : ((0 : Int) ≤ ((a 137).getD (x1 / 10).toNatClampNeg 0).toInt) ∧ (((a 137).getD (x1 / 10).toNatClampNeg 0).toInt ≤ 60) := hG.I.2.2.1 137 ((x1 / 10).toNatClampNeg)
      exact ft_ret mi_k193 (by rfl) (hP vg10 _ _ _ _ hGg10 ⟨trivial, ⟨(show ag10 118 = a 118 from (by first | rfl | (simp only [q12, kg7.fa 118 rfl, sMn, sMx]; done) | (simp only [q12, kg7.fa 118 rfl, sMn, sMx]; rfl))), (rJd_go ⟨(tow126 z2.1 z2.2.1.1 z2.2.1.2 z2.2.2), (tow127 s6 z2.1), (tow128 s6 z2.2.1.2 z2.2.2)⟩ og3 (tow12 c5 ktow0) og7 oU11)⟩⟩)
    ·
      have c14 : vg3.toInt < (0 : Int32).toInt := kd_leF c; clear c
      refine ft_go mi_k193 1 21 [(2, .int vg3), (0, .ref 116), (1, .int x1)] [.int vg3] i a q r (by rfl) ?_
      have s15 : (x1 / 10).toInt = (x1.toInt / 10) := kd_div 10 ktow10 (by decide) (tow0 z2.1)
      have r16 : ((0 : Int) ≤ ((a 137).getD (x1 / 10).toNatClampNeg 0).toInt) ∧ (((a 137).getD (x1 / 10).toNatClampNeg 0).toInt ≤ 60) := hG.I.2.2.1 137 ((x1 / 10).toNatClampNeg)
      exact ft_ret mi_k193 (by rfl) (hP vg3 _ _ _ _ hG ⟨trivial, ⟨(show a 118 = a 118 from rfl), (rJd_bar ⟨(tow126 z2.1 z2.2.1.1 z2.2.1.2 z2.2.2), (tow127 s15 z2.1), (tow128 s15 z2.2.1.2 z2.2.2)⟩ og3 (tow14 c14 ktow0) (tow0 r16.1))⟩⟩)
  ·
    subst eg1
    have z17 : ¬ (((0 : Int) ≤ x1.toInt) ∧ (((0 : Int) ≤ (x1.toInt / 10)) ∧ ((x1.toInt / 10) ≤ 5)) ∧ ((x1.toInt % 10) ≤ 5)) := hg1
    refine ft_go mi_k193 2 9 [(0, .ref 116), (1, .int x1)] [.int (-1)] i a q r (by rfl) ?_
    exact ft_ret mi_k193 (by rfl) (hP (-1) _ _ _ _ hG ⟨trivial, ⟨(show a 118 = a 118 from rfl), (Or.inl ⟨fun h => absurd h.1 (tow129 z17), rfl⟩)⟩⟩)
