theorem ktor0 : (0 : Int32).toInt = 0 := by decide
theorem ktor1 : (1 : Int32).toInt = 1 := by decide
theorem ktorm2 : ((-2) : Int32).toInt = (-2) := by decide
theorem tor0 {a0 a1 : Int} (h0 : a0 ≤ a1) (h1 : (0 : Int) ≤ a0) (h2 : a1 ≤ a0) : ((0 : Int) ≤ a0 → a1 = a0) ∧ (0 : Int) ≤ a0 := by omega
theorem tor1 {a0 : Int} (h0 : (0 : Int) ≤ a0) : (0 : Int) ≤ a0 := oz3 h0
theorem tor2 {a0 a1 : Int} (h0 : a0 < a1) (h1 : a1 ≤ 8) : a0 < 8 := oz1119 h0 h1
theorem tor3 {a0 a1 : Int} (h0 : (0 : Int) ≤ a0) (h1 : a1 = 1) : (-2147483648 : Int) ≤ a0 + a1 := oz12 h0 h1
theorem tor4 {a0 a1 a2 : Int} (h0 : a0 < a1) (h1 : a1 ≤ 8) (h2 : a2 = 1) : a0 + a2 ≤ 2147483647 := oz442 h0 h1 h2
theorem tor5 {a0 a1 a2 : Int} (h0 : (0 : Int) ≤ a0) (h1 : a1 = a0 + a2) (h2 : a2 = 1) : (0 : Int) ≤ a1 := oz14 h0 h1 h2
theorem tor6 {a0 a1 a2 a3 : Int} (h0 : a0 < a1) (h1 : a2 = a0 + a3) (h2 : a3 = 1) : a2 ≤ a1 := og20 h0 h1 h2
theorem tor7 {a0 : Int}  : a0 = a0 := oz34
theorem tor8 {a0 a1 a2 : Int} (h0 : a0 = a1 + a2) (h1 : a2 = 1) : a0 = a1 + 1 := oz169 h0 h1
theorem tor9 {a0 a1 a2 a3 : Int} (h0 : a0 = a1) (h1 : a1 = (-2)) : a0 = -2 ∨ a2 < a3 := by omega
theorem tor10 {a0 a1 a2 a3 : Int} (h0 : a0 = a1 + a2) (h1 : a2 = 1) : (a3 - a0) < (a3 - a1) := oz44 h0 h1
theorem tor11 {a0 a1 : Int} (h0 : a0 < a1) : (1 : Int) ≤ (a1 - a0) := oz45 h0
theorem tor12 {a0 a1 a2 a3 : Int} (h0 : a0 ≠ a1) (h1 : a2 ≤ a3) (h2 : a1 = (-2)) : ¬ (a0 = -2) ∧ a2 ≤ a3 := by omega
theorem tor13 {a0 a1 a2 : Int} (h0 : a0 < a1) : a2 = -2 ∨ a0 < a1 := by omega
theorem tor14 {a0 : Int} (h0 : a0 = 0) : (0 : Int) ≤ a0 := oz46 h0
theorem tor15 {a0 a1 : Int} (h0 : (0 : Int) ≤ a0) (h1 : a1 = 0) : a1 ≤ a0 := ob67 h0 h1
theorem tor95 {a0 a1 : Int} (h0 : a0 ≤ a1) (h1 : a0 = 0) : ¬ (a1 < 0) := oy47 h0 h1
theorem tor96 {a0 a1 a2 : Int} (h0 : a0 ≤ a1) (h1 : a1 ≤ a2) (h2 : a0 = 0) (h3 : a2 = 1) : ((0 : Int) ≤ a1) ∧ (a1 ≤ 1) := ou101 h0 h1 h2 h3
theorem tor97 {a0 a1 : Int} (h0 : a0 ≠ a1) (h1 : a1 ≤ a0) (h2 : a1 = 0) : ¬ (a0 = 0) := toy121 h0 h1 h2
theorem tor98 {a0 a1 : Int} (h0 : a0 = a1) (h1 : a1 = 0) : ¬ (a0 = 1) := toy129 h0 h1
theorem tor99 {a0 a1 : Int} (h0 : a0 < a1) (h1 : a1 = 0) : a0 < 0 := oz1670 h0 h1
theorem tor100 {a0 a1 a2 : Int} (h0 : ¬ ((a0 ≤ a1) ∧ (a1 ≤ a2))) (h1 : a0 = 0) (h2 : a2 = 1) : ¬ (((0 : Int) ≤ a1) ∧ (a1 ≤ 1)) := ou102 h0 h1 h2
set_option maxRecDepth 100000 in
theorem ke72_49_1 {i : Nat → Int32} {a : Nat → List Int32} {q : Nat → List Int64} {r : Nat → Nat} (hI : kI i a q) (hr : kr r) (hN : kNoW i a r) (S : gS) (hT : kThm i a r S) : km 1 72 [.ref 49, .ref 1] (ks i a q r) (kPI (ks i a q r) (fun v => (True) ∧ ((0 < (i 64).toInt → v.toInt = ((gGn (dGn S.1 (a 118)) (i 64).toInt.toNat : Nat) : Int)) ∧ ((i 64).toInt ≤ 0 → v.toInt = -2)))) := by
  have hG := kG_self kW0 hI hr
  refine km_ofPI (q := (mi_h72, mi_c72)) rfl (by decide) (Nat.le_of_ble_eq_true rfl) ?_
  intro P hP
  refine ft_go mi_k72 6 8 [(4, .int 0), (3, .int 0), (2, .int (-2)), (0, .ref 49), (1, .ref 1)] [] i a q r (by rfl) ?_
  have lp1 : ∀ (nz : Nat) (l4_1 : Int32) (l3_1 : Int32) (l2_1 : Int32), (0 : Int) ≤ l4_1.toInt → l4_1.toInt ≤ (i 64).toInt → (i 64).toInt = (i 64).toInt → kGn (dGn S.1 (a 118)) l2_1 l3_1 l4_1 → (((i 64).toInt - l4_1.toInt)).toNat < nz → ko 1 (mi_h72, mi_c72) P (8, [(4, .int l4_1), (3, .int l3_1), (2, .int l2_1), (0, .ref 49), (1, .ref 1)], [], (0, 0), ks i a q r) := by
    intro nz
    induction nz with
    | zero =>
      intro _ _ _ _ _ _ _ hm
      exact absurd hm (Nat.not_lt_zero _)
    | succ nz ih1 =>
      intro l4_1 l3_1 l2_1 p1_0 p1_1 p1_2 O1_0 hm1
      have fi_64 : ((0 : Int) ≤ (i 64).toInt) ∧ ((i 64).toInt ≤ 8) := hG.I.1 64
      refine ft_go mi_k72 3 14 [(4, .int l4_1), (3, .int l3_1), (2, .int l2_1), (0, .ref 49), (1, .ref 1)] [.int (i 64), .int l4_1] i a q r (by rfl) ?_
      refine ft_if mi_k72 (decide ((i 64) ≤ l4_1)) 61 17 [(4, .int l4_1), (3, .int l3_1), (2, .int l2_1), (0, .ref 49), (1, .ref 1)] [] (by rfl) (fun c => ?_) (fun c => ?_)
      ·
        have c2 : (i 64).toInt ≤ l4_1.toInt := kd_le c; clear c
        refine ft_go mi_k72 1 62 [(4, .int l4_1), (3, .int l3_1), (2, .int l2_1), (0, .ref 49), (1, .ref 1)] [.int l2_1] i a q r (by rfl) ?_
        exact ft_ret mi_k72 (by rfl) (hP l2_1 ⟨trivial, (kGn_end (c := l4_1) O1_0 (tor0 c2 fi_64.1 p1_1))⟩)
      ·
        have c3 : l4_1.toInt < (i 64).toInt := kd_leF c; clear c
        refine ft_go mi_k72 4 26 [(4, .int l4_1), (3, .int l3_1), (2, .int l2_1), (0, .ref 49), (1, .ref 1)] [.int l4_1, .ref 51] i a q r (by rfl) ?_
        refine ko_iald3 mi_k72.1 (n := 8) (c := 8) (ax := (0, 0, 0, 0, 0)) (mi_k72.2 _ _ (by rfl)) (by rfl) (ksG51 _ _ _ _) (hG.I.2.1 51) rfl (tor1 p1_0) (tor2 c3 fi_64.2) ?_
        refine ft_go mi_k72 3 33 [(4, .int l4_1), (3, .int l3_1), (2, .int l2_1), (0, .ref 49), (1, .ref 1)] [.int l4_1, .ref 2, .int ((a 51).getD l4_1.toNatClampNeg 0)] i a q r (by rfl) ?_
        refine ko_iald3 mi_k72.1 (n := 8) (c := 8) (ax := (0, 0, 0, 0, 0)) (mi_k72.2 _ _ (by rfl)) (by rfl) (ksG2 _ _ _ _) (hG.I.2.1 2) rfl (tor1 p1_0) (tor2 c3 fi_64.2) ?_
        have b4 : ((-2147483648 : Int) ≤ ((a 51).getD l4_1.toNatClampNeg 0).toInt) ∧ (((a 51).getD l4_1.toNatClampNeg 0).toInt ≤ 2147483647) := kd_bd ((a 51).getD l4_1.toNatClampNeg 0)
        have b5 : ((-2147483648 : Int) ≤ ((a 2).getD l4_1.toNatClampNeg 0).toInt) ∧ (((a 2).getD l4_1.toNatClampNeg 0).toInt ≤ 2147483647) := kd_bd ((a 2).getD l4_1.toNatClampNeg 0)
        refine ft_go mi_k72 4 40 [(5, .int (((a 51).getD l4_1.toNatClampNeg 0) - ((a 2).getD l4_1.toNatClampNeg 0))), (4, .int l4_1), (3, .int l3_1), (2, .int l2_1), (0, .ref 49), (1, .ref 1)] [.int (-2), .int l2_1] i a q r (by rfl) ?_
        refine ft_if mi_k72 (l2_1 == (-2)) 49 43 [(5, .int (((a 51).getD l4_1.toNatClampNeg 0) - ((a 2).getD l4_1.toNatClampNeg 0))), (4, .int l4_1), (3, .int l3_1), (2, .int l2_1), (0, .ref 49), (1, .ref 1)] [] (by rfl) (fun c => ?_) (fun c => ?_)
        ·
          have c6 : l2_1.toInt = ((-2) : Int32).toInt := kd_eq c; clear c
          have s7 : (l4_1 + 1).toInt = l4_1.toInt + (1 : Int32).toInt := kd_add (tor3 p1_0 ktor1) (tor4 c3 fi_64.2 ktor1)
          refine ft_go mi_k72 6 8 [(4, .int (l4_1 + 1)), (3, .int (((a 51).getD l4_1.toNatClampNeg 0) - ((a 2).getD l4_1.toNatClampNeg 0))), (2, .int l4_1), (5, .int (((a 51).getD l4_1.toNatClampNeg 0) - ((a 2).getD l4_1.toNatClampNeg 0))), (0, .ref 49), (1, .ref 1)] [] i a q r (by rfl) ?_
          refine ko_perm [(4, .int (l4_1 + 1)), (3, .int (((a 51).getD l4_1.toNatClampNeg 0) - ((a 2).getD l4_1.toNatClampNeg 0))), (2, .int l4_1), (0, .ref 49), (1, .ref 1)] (List.forall_mem_cons.mpr ⟨(List.Mem.head _), (List.forall_mem_cons.mpr ⟨(List.Mem.tail _ (List.Mem.head _)), (List.forall_mem_cons.mpr ⟨(List.Mem.tail _ (List.Mem.tail _ (List.Mem.head _))), (List.forall_mem_cons.mpr ⟨(List.Mem.tail _ (List.Mem.tail _ (List.Mem.tail _ (List.Mem.tail _ (List.Mem.head _))))), (List.forall_mem_cons.mpr ⟨(List.Mem.tail _ (List.Mem.tail _ (List.Mem.tail _ (List.Mem.tail _ (List.Mem.tail _ (List.Mem.head _)))))), (fun _ h => absurd h List.not_mem_nil)⟩)⟩)⟩)⟩)⟩) ?_
          exact ih1 _ _ _ (tor5 p1_0 s7 ktor1) (tor6 c3 s7 ktor1) tor7 (kGn_up O1_0 (tor1 p1_0) (tor8 s7 ktor1) (dGn_of (tor1 p1_0) (tor2 c3 fi_64.2) (fun j hj => kThm_pu hT hj) (fun j hj => hN.2.1.1 j hj)) (tor9 c6 ktorm2) tor7) (kj_meas (tor10 s7 ktor1) (tor11 c3) hm1)
        ·
          have c8 : l2_1.toInt ≠ ((-2) : Int32).toInt := kd_eqF c; clear c
          refine ft_go mi_k72 2 46 [(5, .int (((a 51).getD l4_1.toNatClampNeg 0) - ((a 2).getD l4_1.toNatClampNeg 0))), (4, .int l4_1), (3, .int l3_1), (2, .int l2_1), (0, .ref 49), (1, .ref 1)] [.int l3_1, .int (((a 51).getD l4_1.toNatClampNeg 0) - ((a 2).getD l4_1.toNatClampNeg 0))] i a q r (by rfl) ?_
          refine ft_if mi_k72 (decide ((((a 51).getD l4_1.toNatClampNeg 0) - ((a 2).getD l4_1.toNatClampNeg 0)) ≤ l3_1)) 55 49 [(5, .int (((a 51).getD l4_1.toNatClampNeg 0) - ((a 2).getD l4_1.toNatClampNeg 0))), (4, .int l4_1), (3, .int l3_1), (2, .int l2_1), (0, .ref 49), (1, .ref 1)] [] (by rfl) (fun c => ?_) (fun c => ?_)
          ·
            have c9 : (((a 51).getD l4_1.toNatClampNeg 0) - ((a 2).getD l4_1.toNatClampNeg 0)).toInt ≤ l3_1.toInt := kd_le c; clear c
            have s10 : (l4_1 + 1).toInt = l4_1.toInt + (1 : Int32).toInt := kd_add (tor3 p1_0 ktor1) (tor4 c3 fi_64.2 ktor1)
            refine ft_go mi_k72 2 8 [(4, .int (l4_1 + 1)), (5, .int (((a 51).getD l4_1.toNatClampNeg 0) - ((a 2).getD l4_1.toNatClampNeg 0))), (3, .int l3_1), (2, .int l2_1), (0, .ref 49), (1, .ref 1)] [] i a q r (by rfl) ?_
            refine ko_perm [(4, .int (l4_1 + 1)), (3, .int l3_1), (2, .int l2_1), (0, .ref 49), (1, .ref 1)] (List.forall_mem_cons.mpr ⟨(List.Mem.head _), (List.forall_mem_cons.mpr ⟨(List.Mem.tail _ (List.Mem.tail _ (List.Mem.head _))), (List.forall_mem_cons.mpr ⟨(List.Mem.tail _ (List.Mem.tail _ (List.Mem.tail _ (List.Mem.head _)))), (List.forall_mem_cons.mpr ⟨(List.Mem.tail _ (List.Mem.tail _ (List.Mem.tail _ (List.Mem.tail _ (List.Mem.head _))))), (List.forall_mem_cons.mpr ⟨(List.Mem.tail _ (List.Mem.tail _ (List.Mem.tail _ (List.Mem.tail _ (List.Mem.tail _ (List.Mem.head _)))))), (fun _ h => absurd h List.not_mem_nil)⟩)⟩)⟩)⟩)⟩) ?_
            exact ih1 _ _ _ (tor5 p1_0 s10 ktor1) (tor6 c3 s10 ktor1) tor7 (kGn_no O1_0 (tor1 p1_0) (tor8 s10 ktor1) (dGn_of (tor1 p1_0) (tor2 c3 fi_64.2) (fun j hj => kThm_pu hT hj) (fun j hj => hN.2.1.1 j hj)) (tor12 c8 c9 ktorm2)) (kj_meas (tor10 s10 ktor1) (tor11 c3) hm1)
          ·
            have c11 : l3_1.toInt < (((a 51).getD l4_1.toNatClampNeg 0) - ((a 2).getD l4_1.toNatClampNeg 0)).toInt := kd_leF c; clear c
            have s12 : (l4_1 + 1).toInt = l4_1.toInt + (1 : Int32).toInt := kd_add (tor3 p1_0 ktor1) (tor4 c3 fi_64.2 ktor1)
            refine ft_go mi_k72 6 8 [(4, .int (l4_1 + 1)), (3, .int (((a 51).getD l4_1.toNatClampNeg 0) - ((a 2).getD l4_1.toNatClampNeg 0))), (2, .int l4_1), (5, .int (((a 51).getD l4_1.toNatClampNeg 0) - ((a 2).getD l4_1.toNatClampNeg 0))), (0, .ref 49), (1, .ref 1)] [] i a q r (by rfl) ?_
            refine ko_perm [(4, .int (l4_1 + 1)), (3, .int (((a 51).getD l4_1.toNatClampNeg 0) - ((a 2).getD l4_1.toNatClampNeg 0))), (2, .int l4_1), (0, .ref 49), (1, .ref 1)] (List.forall_mem_cons.mpr ⟨(List.Mem.head _), (List.forall_mem_cons.mpr ⟨(List.Mem.tail _ (List.Mem.head _)), (List.forall_mem_cons.mpr ⟨(List.Mem.tail _ (List.Mem.tail _ (List.Mem.head _))), (List.forall_mem_cons.mpr ⟨(List.Mem.tail _ (List.Mem.tail _ (List.Mem.tail _ (List.Mem.tail _ (List.Mem.head _))))), (List.forall_mem_cons.mpr ⟨(List.Mem.tail _ (List.Mem.tail _ (List.Mem.tail _ (List.Mem.tail _ (List.Mem.tail _ (List.Mem.head _)))))), (fun _ h => absurd h List.not_mem_nil)⟩)⟩)⟩)⟩)⟩) ?_
            exact ih1 _ _ _ (tor5 p1_0 s12 ktor1) (tor6 c3 s12 ktor1) tor7 (kGn_up O1_0 (tor1 p1_0) (tor8 s12 ktor1) (dGn_of (tor1 p1_0) (tor2 c3 fi_64.2) (fun j hj => kThm_pu hT hj) (fun j hj => hN.2.1.1 j hj)) (tor13 c11) tor7) (kj_meas (tor10 s12 ktor1) (tor11 c3) hm1)
  have fi_64 : ((0 : Int) ≤ (i 64).toInt) ∧ ((i 64).toInt ≤ 8) := hG.I.1 64
  exact lp1 _ _ _ _ (tor14 ktor0) (tor15 fi_64.1 ktor0) tor7 (kGn_0 ktor0 ktorm2) (Nat.lt_succ_self _)
def yw96_0 : kW := ([645, 3138, 3200, 3206, 3207, 3208, 3209, 3214, 3215, 3216, 3586, 3781, 6405], [13, 51, 52, 53, 54, 55, 57, 58, 62, 63, 65, 66, 67, 68, 69, 70, 71, 72, 73, 74, 75, 76, 77, 81, 82, 83, 84, 85, 86, 87, 88, 103], [], [1])
set_option maxRecDepth 100000 in
theorem ke96_0 {i : Nat → Int32} {a : Nat → List Int32} {q : Nat → List Int64} {r : Nat → Nat} (hI : kI i a q) (hr : kr r) (x1 : Int32) (x2 : Int32) (hN : kNoW i a r) : km 13 96 [.ref 0, .int x1, .int x2] (ks i a q r) (kVI yw96_0 i a q r (fun v i1 a1 q1 r1 => (True) ∧ cTop (((0 : Int) ≤ x2.toInt) ∧ (x2.toInt ≤ 1)) i q x1 v (fun n L => fRn (gKn i a) (gB i a) (i 64) (a 118) x2 v n L))) := by
  have hG := kG_self yw96_0 hI hr
  refine km_ofI (q := (mi_h96, mi_c96)) rfl (by decide) (Nat.le_of_ble_eq_true rfl) ?_
  intro P hP
  refine ft_go mi_k96 3 3 [(0, .ref 0), (1, .int x1), (2, .int x2)] [.int 1, .int 0, .int x2] i a q r (by rfl) ?_
  refine ko_callPI mi_k96.1 (pc := 3) (ls := [(0, .ref 0), (1, .int x1), (2, .int x2)]) (st := [.int 1, .int 0, .int x2]) (h := ks i a q r) (i := (.invokestatic 74, 3, 120, 0, 9, 0, 152)) (mi_k96.2 _ _ (by rfl)) (ft_invS mi_pq120 (by rfl)) (cy := mi_c120) mi_pq120 rfl (kc120 hG.I hG.R x2 0 1) (by decide) ?_
  intro vg1 hg1
  rcases hg1 with ⟨eg1, hg1⟩ | ⟨eg1, hg1⟩
  ·
    subst eg1
    have z2 : ((0 : Int32).toInt ≤ x2.toInt) ∧ (x2.toInt ≤ (1 : Int32).toInt) := hg1
    refine ft_go mi_k96 3 13 [(0, .ref 0), (1, .int x1), (2, .int x2)] [.int x1, .ref 0] i a q r (by rfl) ?_
    refine ko_callI mi_k96.1 (pc := 13) (ls := [(0, .ref 0), (1, .int x1), (2, .int x2)]) (st := [.int x1, .ref 0]) (h := ks i a q r) (i := (.invokevirtual 144, 3, 129, 0, 9, 0, 208)) (mi_k96.2 _ _ (by rfl)) (ft_invS mi_pq129 (by rfl)) (cy := mi_c129) mi_pq129 rfl (kg129_0 hG.I hG.R x1) (by decide) ?_
    intro vg3 ig3 ag3 qg3 rg3 kg3 hg3
    have hGg3 := kG_call hG kg3 (by decide +kernel)
    obtain ⟨hg3, og3⟩ := hg3
    have z4 : vg3.toInt ≤ 0 := hg3
    refine ft_go mi_k96 2 18 [(3, .int vg3), (0, .ref 0), (1, .int x1), (2, .int x2)] [.int vg3] ig3 ag3 qg3 rg3 (by rfl) ?_
    refine ft_if mi_k96 (decide (0 ≤ vg3)) 23 21 [(3, .int vg3), (0, .ref 0), (1, .int x1), (2, .int x2)] [] (by rfl) (fun c => ?_) (fun c => ?_)
    ·
      have c5 : (0 : Int32).toInt ≤ vg3.toInt := kd_le c; clear c
      refine ft_go mi_k96 4 31 [(3, .int vg3), (0, .ref 0), (1, .int x1), (2, .int x2)] [.ref 1, .ref 49] ig3 ag3 qg3 rg3 (by rfl) ?_
      refine ko_callN mi_k96.1 (pc := 31) (ls := [(3, .int vg3), (0, .ref 0), (1, .int x1), (2, .int x2)]) (st := [.ref 1, .ref 49]) (h := ks ig3 ag3 qg3 rg3) (i := (.invokevirtual 147, 3, 59, 0, 9, 0, 211)) (mi_k96.2 _ _ (by rfl)) (ft_invS mi_pq59 (by rfl)) (cy := mi_c59) mi_pq59 rfl (ke59_49_1 hGg3.I hGg3.R (kNoW_fr hGg3 (by decide +kernel) hr hN) (cRow1_row (cPl_row og3 (tor95 c5 ktor0)) (hGg3.fi 64 rfl))) (by decide) ?_
      intro ig6 ag6 qg6 rg6 kg6 hg6
      have hGg6 := kG_call hGg3 kg6 (by decide +kernel)
      obtain ⟨hg6, og6⟩ := hg6
      have oT7 := og6
      rw [(gKn_fr hGg3 (by decide +kernel) : gKn ig3 ag3 = gKn i a), (gB_eq (kg3.fa 118 rfl) (kg3.fi 3214 rfl) (kg3.fi 3215 rfl) (kg3.fi 3216 rfl) : gB ig3 ag3 = gB i a)] at oT7
      have tT8 : kThm ig6 ag6 rg6 (gAt (gKn i a) (ag3 74) (gB i a) (ig3 3138).toInt.toNat) := oT7.1
      refine ft_go mi_k96 1 35 [(3, .int vg3), (0, .ref 0), (1, .int x1), (2, .int x2)] [.int x2] ig6 ag6 qg6 rg6 (by rfl) ?_
      refine ft_if mi_k96 (x2 != 0) 48 38 [(3, .int vg3), (0, .ref 0), (1, .int x1), (2, .int x2)] [] (by rfl) (fun c => ?_) (fun c => ?_)
      ·
        have c9 : x2.toInt ≠ (0 : Int32).toInt := kd_ne c; clear c
        refine ft_go mi_k96 4 56 [(3, .int vg3), (0, .ref 0), (1, .int x1), (2, .int x2)] [.ref 1, .ref 49] ig6 ag6 qg6 rg6 (by rfl) ?_
        refine ko_callPI mi_k96.1 (pc := 56) (ls := [(3, .int vg3), (0, .ref 0), (1, .int x1), (2, .int x2)]) (st := [.ref 1, .ref 49]) (h := ks ig6 ag6 qg6 rg6) (i := (.invokevirtual 210, 3, 72, 0, 9, 0, 258)) (mi_k96.2 _ _ (by rfl)) (ft_invS mi_pq72 (by rfl)) (cy := mi_c72) mi_pq72 rfl (ke72_49_1 hGg6.I hGg6.R (kNoW_fr hGg6 (by decide +kernel) hr hN) _ tT8) (by decide) ?_
        intro vg10 hg10
        obtain ⟨hg10, og10⟩ := hg10
        have oW11 := og10
        rw [(((kg6.fa 118 rfl).trans (kg3.fa 118 rfl)) : ag6 118 = a 118), (((kg6.fi 64 rfl).trans (kg3.fi 64 rfl)) : ig6 64 = i 64)] at oW11
        have fi_64 : ((0 : Int) ≤ (i 64).toInt) ∧ ((i 64).toInt ≤ 8) := hG.I.1 64
        exact ft_ret mi_k96 (by rfl) (hP vg10 _ _ _ _ hGg6 ⟨trivial, (Or.inr ⟨(tor96 z2.1 z2.2 ktor0 ktor1), cShf_go (cPl_row og3 (tor95 c5 ktor0)) ⟨fun h => absurd h (tor97 c9 z2.1 ktor0), fun _ => oW11, kThm_dz tT8, (cRow1_no (cPl_row og3 (tor95 c5 ktor0)))⟩⟩)⟩)
      ·
        have c12 : x2.toInt = (0 : Int32).toInt := kd_neF c; clear c
        refine ft_go mi_k96 2 42 [(3, .int vg3), (0, .ref 0), (1, .int x1), (2, .int x2)] [.ref 49] ig6 ag6 qg6 rg6 (by rfl) ?_
        refine ko_callI mi_k96.1 (pc := 42) (ls := [(3, .int vg3), (0, .ref 0), (1, .int x1), (2, .int x2)]) (st := [.ref 49]) (h := ks ig6 ag6 qg6 rg6) (i := (.invokevirtual 207, 3, 71, 0, 9, 0, 256)) (mi_k96.2 _ _ (by rfl)) (ft_invS mi_pq71 (by rfl)) (cy := mi_c71) mi_pq71 rfl (ke71_49 hGg6.I hGg6.R _ tT8) (by decide) ?_
        intro vg13 ig13 ag13 qg13 rg13 kg13 hg13
        have hGg13 := kG_call hGg6 kg13 (by decide +kernel)
        obtain ⟨hg13, og13⟩ := hg13
        refine ft_go mi_k96 1 59 [(3, .int vg3), (0, .ref 0), (1, .int x1), (2, .int x2)] [.int vg13] ig13 ag13 qg13 rg13 (by rfl) ?_
        have fi_64 : ((0 : Int) ≤ (i 64).toInt) ∧ ((i 64).toInt ≤ 8) := hG.I.1 64
        exact ft_ret mi_k96 (by rfl) (hP vg13 _ _ _ _ hGg13 ⟨trivial, (Or.inr ⟨(tor96 z2.1 z2.2 ktor0 ktor1), cShf_go (cPl_row og3 (tor95 c5 ktor0)) ⟨fun _ => og13, fun h => absurd h (tor98 c12 ktor0), kThm_dz tT8, (cRow1_no (cPl_row og3 (tor95 c5 ktor0)))⟩⟩)⟩)
    ·
      have c14 : vg3.toInt < (0 : Int32).toInt := kd_leF c; clear c
      refine ft_go mi_k96 1 22 [(3, .int vg3), (0, .ref 0), (1, .int x1), (2, .int x2)] [.int vg3] ig3 ag3 qg3 rg3 (by rfl) ?_
      exact ft_ret mi_k96 (by rfl) (hP vg3 _ _ _ _ hGg3 ⟨trivial, (Or.inr ⟨(tor96 z2.1 z2.2 ktor0 ktor1), cShf_bar og3 (tor99 c14 ktor0)⟩)⟩)
  ·
    subst eg1
    have z15 : ¬ (((0 : Int32).toInt ≤ x2.toInt) ∧ (x2.toInt ≤ (1 : Int32).toInt)) := hg1
    refine ft_go mi_k96 2 10 [(0, .ref 0), (1, .int x1), (2, .int x2)] [.int (-1)] i a q r (by rfl) ?_
    exact ft_ret mi_k96 (by rfl) (hP (-1) _ _ _ _ hG ⟨trivial, (Or.inl ⟨(tor100 z15 ktor0 ktor1), rfl⟩)⟩)
