set_option maxRecDepth 100000 in
theorem ke161_116 {i : Nat → Int32} {a : Nat → List Int32} {q : Nat → List Int64} {r : Nat → Nat} (hI : kI i a q) (hr : kr r) (x1 : Int32) (x2 : Int32) (hS : kSeg (a 123) x1.toInt x2.toInt) : km 3 161 [.ref 116, .int x1, .int x2] (ks i a q r) (kVI yw161_116 i a q r (fun v i1 a1 q1 r1 => (True) ∧ v = wVal (a 123) (a 129) x1 x2)) := by
  have hG := kG_self yw161_116 hI hr
  refine km_ofI (q := (mi_h161, mi_c161)) rfl (by decide) (Nat.le_of_ble_eq_true rfl) ?_
  intro P hP
  have hs1 : (0 : Int) ≤ x1.toInt := hS.1
  have hs2 : x1.toInt ≤ x2.toInt := hS.2.1
  have hs3 : x2.toInt ≤ 200 := hS.2.2.1
  refine ft_go mi_k161 4 5 [(4, .int x1), (3, .int 0), (0, .ref 116), (1, .int x1), (2, .int x2)] [] i a q r (by rfl) ?_
  have lp4 : ∀ (nz : Nat) (i4 : Nat → Int32) (a4 : Nat → List Int32) (q4 : Nat → List Int64) (r4 : Nat → Nat) (l4_4 : Int32) (l3_4 : Int32), kG yw161_116_L5 i a q r i4 a4 q4 r4 → x1.toInt ≤ l4_4.toInt → ((0 : Int) ≤ l3_4.toInt) ∧ (l3_4.toInt ≤ 200) → l4_4.toInt ≤ x2.toInt → kWk (a4 123) x1.toInt l4_4.toInt l3_4.toInt → (a4 128).take l3_4.toInt.toNat = wRun (a 123) (a 129) x1.toInt.toNat (l4_4.toInt - x1.toInt).toNat → ((x2.toInt - l4_4.toInt)).toNat < nz → ko 3 (mi_h161, mi_c161) P (5, [(4, .int l4_4), (3, .int l3_4), (0, .ref 116), (1, .int x1), (2, .int x2)], [], (0, 0), ks i4 a4 q4 r4) := by
    intro nz
    induction nz with
    | zero =>
      intro _ _ _ _ _ _ _ _ _ _ _ _ hm
      exact absurd hm (Nat.not_lt_zero _)
    | succ nz ih4 =>
      intro i4 a4 q4 r4 l4_4 l3_4 hL4 p4_0 p4_1 p4_2 O4_0 O4_1 hm4
      have hS5 : kSeg (a4 123) x1.toInt x2.toInt := kSeg_cast hS (hL4.fa 123 rfl)
      refine ft_go mi_k161 2 8 [(4, .int l4_4), (3, .int l3_4), (0, .ref 116), (1, .int x1), (2, .int x2)] [.int x2, .int l4_4] i4 a4 q4 r4 (by rfl) ?_
      refine ft_if mi_k161 (decide (x2 ≤ l4_4)) 163 11 [(4, .int l4_4), (3, .int l3_4), (0, .ref 116), (1, .int x1), (2, .int x2)] [] (by rfl) (fun c => ?_) (fun c => ?_)
      ·
        have c6 : x2.toInt ≤ l4_4.toInt := kd_le c; clear c
        have hG7 := kG_call hG hL4 (by decide +kernel)
        refine ft_go mi_k161 3 168 [(4, .int l4_4), (3, .int l3_4), (0, .ref 116), (1, .int x1), (2, .int x2)] [.int 0, .ref 128] i4 a4 q4 r4 (by rfl) ?_
        refine ko_iald3 mi_k161.1 (n := 200) (c := 200) (ax := (0, 0, 0, 0, 0)) (mi_k161.2 _ _ (by rfl)) (by rfl) (ksG128 _ _ _ _) (hG7.I.2.1 128) rfl (og2 kog0) (og3 kog0) ?_
        exact ft_ret mi_k161 (by rfl) (hP ((a4 128).getD (0 : Int32).toNatClampNeg 0) _ _ _ _ hG7 ⟨trivial, (show ((a4 128).getD (0 : Int32).toNatClampNeg 0) = wVal (a 123) (a 129) x1 x2 from (wS_end O4_1 (Int.le_of_eq (kWk_end hS5 O4_0 (og4 c6 p4_2)).symm) (og5 c6 p4_2)))⟩)
      ·
        have c8 : l4_4.toInt < x2.toInt := kd_leF c; clear c
        refine ft_go mi_k161 3 17 [(4, .int l4_4), (3, .int l3_4), (0, .ref 116), (1, .int x1), (2, .int x2)] [.int l4_4, .ref 123] i4 a4 q4 r4 (by rfl) ?_
        refine ko_iald3 mi_k161.1 (n := 200) (c := 200) (ax := (0, 0, 0, 0, 0)) (mi_k161.2 _ _ (by rfl)) (by rfl) (ksG123 _ _ _ _) (hL4.I.2.1 123) rfl (og6 hs1 p4_0) (og7 c8 hs3) ?_
        have wf9 : ((0 : Int) ≤ ((a4 123).getD l4_4.toNatClampNeg 0).toInt) ∧ (((((a4 123).getD l4_4.toNatClampNeg 0).toInt = 16 ∨ ((a4 123).getD l4_4.toNatClampNeg 0).toInt = 17) → (1 : Int) ≤ l3_4.toInt)) ∧ (((6 ≤ ((a4 123).getD l4_4.toNatClampNeg 0).toInt ∧ ((a4 123).getD l4_4.toNatClampNeg 0).toInt ≤ 15) → (2 : Int) ≤ l3_4.toInt)) ∧ (l3_4.toInt ≤ l4_4.toInt) := kWk_facts hS5 O4_0 rfl (og8 c8)
        refine ft_go mi_k161 3 24 [(5, .int ((a4 123).getD l4_4.toNatClampNeg 0)), (4, .int l4_4), (3, .int l3_4), (0, .ref 116), (1, .int x1), (2, .int x2)] [.int 18, .int ((a4 123).getD l4_4.toNatClampNeg 0)] i4 a4 q4 r4 (by rfl) ?_
        refine ft_if mi_k161 (decide (18 ≤ ((a4 123).getD l4_4.toNatClampNeg 0))) 33 27 [(5, .int ((a4 123).getD l4_4.toNatClampNeg 0)), (4, .int l4_4), (3, .int l3_4), (0, .ref 116), (1, .int x1), (2, .int x2)] [] (by rfl) (fun c => ?_) (fun c => ?_)
        ·
          have c10 : (18 : Int32).toInt ≤ ((a4 123).getD l4_4.toNatClampNeg 0).toInt := kd_le c; clear c
          have s11 : (l3_4 + 1).toInt = l3_4.toInt + (1 : Int32).toInt := kd_add (og9 p4_1.1 kog1) (og10 p4_1.2 kog1)
          refine ft_go mi_k161 6 45 [(3, .int (l3_4 + 1)), (5, .int ((a4 123).getD l4_4.toNatClampNeg 0)), (4, .int l4_4), (0, .ref 116), (1, .int x1), (2, .int x2)] [.int 18, .int ((a4 123).getD l4_4.toNatClampNeg 0), .int l3_4, .ref 128] i4 a4 q4 r4 (by rfl) ?_
          refine ft_if mi_k161 (decide (((a4 123).getD l4_4.toNatClampNeg 0) < 18)) 56 48 [(3, .int (l3_4 + 1)), (5, .int ((a4 123).getD l4_4.toNatClampNeg 0)), (4, .int l4_4), (0, .ref 116), (1, .int x1), (2, .int x2)] [.int l3_4, .ref 128] (by rfl) (fun c => ?_) (fun c => ?_)
          ·
            have c12 : ((a4 123).getD l4_4.toNatClampNeg 0).toInt < (18 : Int32).toInt := kd_lt c; clear c
            exact (og11 c10 c12 kog18).elim
          ·
            have c13 : (18 : Int32).toInt ≤ ((a4 123).getD l4_4.toNatClampNeg 0).toInt := kd_ltF c; clear c
            have b14 : ((-2147483648 : Int) ≤ ((a4 123).getD l4_4.toNatClampNeg 0).toInt) ∧ (((a4 123).getD l4_4.toNatClampNeg 0).toInt ≤ 2147483647) := kd_bd ((a4 123).getD l4_4.toNatClampNeg 0)
            have s15 : (((a4 123).getD l4_4.toNatClampNeg 0) - 18).toInt = ((a4 123).getD l4_4.toNatClampNeg 0).toInt - (18 : Int32).toInt := kd_sub (og12 c10 kog18) (og13 b14.2 kog18)
            refine ft_go mi_k161 4 63 [(3, .int (l3_4 + 1)), (5, .int ((a4 123).getD l4_4.toNatClampNeg 0)), (4, .int l4_4), (0, .ref 116), (1, .int x1), (2, .int x2)] [.int (((a4 123).getD l4_4.toNatClampNeg 0) - 18), .int l3_4, .ref 128] i4 a4 q4 r4 (by rfl) ?_
            refine ko_iast3 mi_k161.1 (n := 200) (c := 200) (ax := (0, 0, 0, 0, 0)) (mi_k161.2 _ _ (by rfl)) (by rfl) (ksG128 _ _ _ _) (ksA128 _ _ _ _) (hL4.I.2.1 128) rfl (og14 p4_1.1) (og15 c8 hs3 wf9.2.2.2) ?_
            intro a16 ea16 fa16
            have hJ16 := kG_a3 hL4 128 rfl ea16 fa16 (kd_bd _)
            have s17 : (l4_4 + 1).toInt = l4_4.toInt + (1 : Int32).toInt := kd_add (og16 hs1 p4_0 kog1) (og17 c8 hs3 kog1)
            refine ft_go mi_k161 3 5 [(4, .int (l4_4 + 1)), (3, .int (l3_4 + 1)), (5, .int ((a4 123).getD l4_4.toNatClampNeg 0)), (0, .ref 116), (1, .int x1), (2, .int x2)] [] i4 a16 q4 r4 (by rfl) ?_
            refine ko_perm [(4, .int (l4_4 + 1)), (3, .int (l3_4 + 1)), (0, .ref 116), (1, .int x1), (2, .int x2)] (List.forall_mem_cons.mpr ⟨(List.Mem.head _), (List.forall_mem_cons.mpr ⟨(List.Mem.tail _ (List.Mem.head _)), (List.forall_mem_cons.mpr ⟨(List.Mem.tail _ (List.Mem.tail _ (List.Mem.tail _ (List.Mem.head _)))), (List.forall_mem_cons.mpr ⟨(List.Mem.tail _ (List.Mem.tail _ (List.Mem.tail _ (List.Mem.tail _ (List.Mem.head _))))), (List.forall_mem_cons.mpr ⟨(List.Mem.tail _ (List.Mem.tail _ (List.Mem.tail _ (List.Mem.tail _ (List.Mem.tail _ (List.Mem.head _)))))), (fun _ h => absurd h List.not_mem_nil)⟩)⟩)⟩)⟩)⟩) ?_
            exact ih4 _ _ _ _ _ _ hJ16 (og18 p4_0 s17 kog1) (og19 c8 hs3 p4_1.1 s11 wf9.2.2.2 kog1) (og20 c8 s17 kog1) (kWk_cast (kWk_next hS5 O4_0 rfl (og8 c8) (og22 s17 kog1) (og21 c10 s11 kog18 kog1)) (fa16 123 (by decide))) (wS_push (c := ((a4 123).getD l4_4.toNatClampNeg 0)) O4_1 (hL4.I.2.1 128) (og14 p4_1.1) (og15 c8 hs3 wf9.2.2.2) (og14 hs1) (og23 p4_0) (congrArg (fun z : List Int32 => z.getD l4_4.toNatClampNeg 0) (hL4.fa 123 rfl)) (og25 c10 kog18) (if_pos (og26 c10 kog18)).symm (ea16) (og22 s11 kog1) (og22 s17 kog1)) (kj_meas (og27 s17 kog1) (og28 c8) hm4)
        ·
          have c18 : ((a4 123).getD l4_4.toNatClampNeg 0).toInt < (18 : Int32).toInt := kd_leF c; clear c
          refine ft_go mi_k161 2 30 [(5, .int ((a4 123).getD l4_4.toNatClampNeg 0)), (4, .int l4_4), (3, .int l3_4), (0, .ref 116), (1, .int x1), (2, .int x2)] [.int 5, .int ((a4 123).getD l4_4.toNatClampNeg 0)] i4 a4 q4 r4 (by rfl) ?_
          refine ft_if mi_k161 (decide (5 < ((a4 123).getD l4_4.toNatClampNeg 0))) 67 33 [(5, .int ((a4 123).getD l4_4.toNatClampNeg 0)), (4, .int l4_4), (3, .int l3_4), (0, .ref 116), (1, .int x1), (2, .int x2)] [] (by rfl) (fun c => ?_) (fun c => ?_)
          ·
            have c19 : (5 : Int32).toInt < ((a4 123).getD l4_4.toNatClampNeg 0).toInt := kd_lt c; clear c
            refine ft_go mi_k161 2 71 [(5, .int ((a4 123).getD l4_4.toNatClampNeg 0)), (4, .int l4_4), (3, .int l3_4), (0, .ref 116), (1, .int x1), (2, .int x2)] [.int 16, .int ((a4 123).getD l4_4.toNatClampNeg 0)] i4 a4 q4 r4 (by rfl) ?_
            refine ft_if mi_k161 (((a4 123).getD l4_4.toNatClampNeg 0) == 16) 81 74 [(5, .int ((a4 123).getD l4_4.toNatClampNeg 0)), (4, .int l4_4), (3, .int l3_4), (0, .ref 116), (1, .int x1), (2, .int x2)] [] (by rfl) (fun c => ?_) (fun c => ?_)
            ·
              have c20 : ((a4 123).getD l4_4.toNatClampNeg 0).toInt = (16 : Int32).toInt := kd_eq c; clear c
              have s21 : (l3_4 - 1).toInt = l3_4.toInt - (1 : Int32).toInt := kd_sub (og29 p4_1.1 kog1) (og30 p4_1.2 kog1)
              refine ft_go mi_k161 7 92 [(5, .int ((a4 123).getD l4_4.toNatClampNeg 0)), (4, .int l4_4), (3, .int l3_4), (0, .ref 116), (1, .int x1), (2, .int x2)] [.int 17, .int ((a4 123).getD l4_4.toNatClampNeg 0), .int (l3_4 - 1), .ref 128] i4 a4 q4 r4 (by rfl) ?_
              refine ft_if mi_k161 (((a4 123).getD l4_4.toNatClampNeg 0) != 17) 107 95 [(5, .int ((a4 123).getD l4_4.toNatClampNeg 0)), (4, .int l4_4), (3, .int l3_4), (0, .ref 116), (1, .int x1), (2, .int x2)] [.int (l3_4 - 1), .ref 128] (by rfl) (fun c => ?_) (fun c => ?_)
              ·
                have c22 : ((a4 123).getD l4_4.toNatClampNeg 0).toInt ≠ (17 : Int32).toInt := kd_ne c; clear c
                refine ft_go mi_k161 5 114 [(5, .int ((a4 123).getD l4_4.toNatClampNeg 0)), (4, .int l4_4), (3, .int l3_4), (0, .ref 116), (1, .int x1), (2, .int x2)] [.int (l3_4 - 1), .ref 128, .int (l3_4 - 1), .ref 128] i4 a4 q4 r4 (by rfl) ?_
                refine ko_iald3 mi_k161.1 (n := 200) (c := 200) (ax := (0, 0, 0, 0, 0)) (mi_k161.2 _ _ (by rfl)) (by rfl) (ksG128 _ _ _ _) (hL4.I.2.1 128) rfl (og31 c18 c20 s21 wf9.2.1 kog18 kog16 kog1) (og32 p4_1.2 s21 kog1) ?_
                refine ft_if mi_k161 (((a4 128).getD (l3_4 - 1).toNatClampNeg 0) != 0) 122 118 [(5, .int ((a4 123).getD l4_4.toNatClampNeg 0)), (4, .int l4_4), (3, .int l3_4), (0, .ref 116), (1, .int x1), (2, .int x2)] [.int (l3_4 - 1), .ref 128] (by rfl) (fun c => ?_) (fun c => ?_)
                ·
                  have c23 : ((a4 128).getD (l3_4 - 1).toNatClampNeg 0).toInt ≠ (0 : Int32).toInt := kd_ne c; clear c
                  refine ft_go mi_k161 1 123 [(5, .int ((a4 123).getD l4_4.toNatClampNeg 0)), (4, .int l4_4), (3, .int l3_4), (0, .ref 116), (1, .int x1), (2, .int x2)] [.int 0, .int (l3_4 - 1), .ref 128] i4 a4 q4 r4 (by rfl) ?_
                  refine ko_iast3 mi_k161.1 (n := 200) (c := 200) (ax := (0, 0, 0, 0, 0)) (mi_k161.2 _ _ (by rfl)) (by rfl) (ksG128 _ _ _ _) (ksA128 _ _ _ _) (hL4.I.2.1 128) rfl (og31 c18 c20 s21 wf9.2.1 kog18 kog16 kog1) (og32 p4_1.2 s21 kog1) ?_
                  intro a24 ea24 fa24
                  have hJ24 := kG_a3 hL4 128 rfl ea24 fa24 (kd_bd _)
                  have s25 : (l4_4 + 1).toInt = l4_4.toInt + (1 : Int32).toInt := kd_add (og16 hs1 p4_0 kog1) (og17 c8 hs3 kog1)
                  refine ft_go mi_k161 3 5 [(4, .int (l4_4 + 1)), (5, .int ((a4 123).getD l4_4.toNatClampNeg 0)), (3, .int l3_4), (0, .ref 116), (1, .int x1), (2, .int x2)] [] i4 a24 q4 r4 (by rfl) ?_
                  refine ko_perm [(4, .int (l4_4 + 1)), (3, .int l3_4), (0, .ref 116), (1, .int x1), (2, .int x2)] (List.forall_mem_cons.mpr ⟨(List.Mem.head _), (List.forall_mem_cons.mpr ⟨(List.Mem.tail _ (List.Mem.tail _ (List.Mem.head _))), (List.forall_mem_cons.mpr ⟨(List.Mem.tail _ (List.Mem.tail _ (List.Mem.tail _ (List.Mem.head _)))), (List.forall_mem_cons.mpr ⟨(List.Mem.tail _ (List.Mem.tail _ (List.Mem.tail _ (List.Mem.tail _ (List.Mem.head _))))), (List.forall_mem_cons.mpr ⟨(List.Mem.tail _ (List.Mem.tail _ (List.Mem.tail _ (List.Mem.tail _ (List.Mem.tail _ (List.Mem.head _)))))), (fun _ h => absurd h List.not_mem_nil)⟩)⟩)⟩)⟩)⟩) ?_
                  exact ih4 _ _ _ _ _ _ hJ24 (og18 p4_0 s25 kog1) (og33 p4_1.1 p4_1.2) (og20 c8 s25 kog1) (kWk_cast (kWk_next hS5 O4_0 rfl (og8 c8) (og22 s25 kog1) (og34 c18 c20 kog18 kog16)) (fa24 123 (by decide))) (wS_un (c := ((a4 123).getD l4_4.toNatClampNeg 0)) (y := (l3_4 - 1)) O4_1 (hL4.I.2.1 128) (og38 c18 c20 wf9.2.1 kog18 kog16) (og24 p4_1.2) (og14 hs1) (og23 p4_0) (congrArg (fun z : List Int32 => z.getD l4_4.toNatClampNeg 0) (hL4.fa 123 rfl)) (og35 c20 kog16) (og39 s21 kog1) ((if_neg (og36 c20 kog16)).trans (if_neg (og37 c23 kog0))).symm (ea24) og40 (og22 s25 kog1)) (kj_meas (og27 s25 kog1) (og28 c8) hm4)
                ·
                  have c26 : ((a4 128).getD (l3_4 - 1).toNatClampNeg 0).toInt = (0 : Int32).toInt := kd_neF c; clear c
                  refine ft_go mi_k161 2 123 [(5, .int ((a4 123).getD l4_4.toNatClampNeg 0)), (4, .int l4_4), (3, .int l3_4), (0, .ref 116), (1, .int x1), (2, .int x2)] [.int 1, .int (l3_4 - 1), .ref 128] i4 a4 q4 r4 (by rfl) ?_
                  refine ko_iast3 mi_k161.1 (n := 200) (c := 200) (ax := (0, 0, 0, 0, 0)) (mi_k161.2 _ _ (by rfl)) (by rfl) (ksG128 _ _ _ _) (ksA128 _ _ _ _) (hL4.I.2.1 128) rfl (og31 c18 c20 s21 wf9.2.1 kog18 kog16 kog1) (og32 p4_1.2 s21 kog1) ?_
                  intro a27 ea27 fa27
                  have hJ27 := kG_a3 hL4 128 rfl ea27 fa27 (kd_bd _)
                  have s28 : (l4_4 + 1).toInt = l4_4.toInt + (1 : Int32).toInt := kd_add (og16 hs1 p4_0 kog1) (og17 c8 hs3 kog1)
                  refine ft_go mi_k161 3 5 [(4, .int (l4_4 + 1)), (5, .int ((a4 123).getD l4_4.toNatClampNeg 0)), (3, .int l3_4), (0, .ref 116), (1, .int x1), (2, .int x2)] [] i4 a27 q4 r4 (by rfl) ?_
                  refine ko_perm [(4, .int (l4_4 + 1)), (3, .int l3_4), (0, .ref 116), (1, .int x1), (2, .int x2)] (List.forall_mem_cons.mpr ⟨(List.Mem.head _), (List.forall_mem_cons.mpr ⟨(List.Mem.tail _ (List.Mem.tail _ (List.Mem.head _))), (List.forall_mem_cons.mpr ⟨(List.Mem.tail _ (List.Mem.tail _ (List.Mem.tail _ (List.Mem.head _)))), (List.forall_mem_cons.mpr ⟨(List.Mem.tail _ (List.Mem.tail _ (List.Mem.tail _ (List.Mem.tail _ (List.Mem.head _))))), (List.forall_mem_cons.mpr ⟨(List.Mem.tail _ (List.Mem.tail _ (List.Mem.tail _ (List.Mem.tail _ (List.Mem.tail _ (List.Mem.head _)))))), (fun _ h => absurd h List.not_mem_nil)⟩)⟩)⟩)⟩)⟩) ?_
                  exact ih4 _ _ _ _ _ _ hJ27 (og18 p4_0 s28 kog1) (og33 p4_1.1 p4_1.2) (og20 c8 s28 kog1) (kWk_cast (kWk_next hS5 O4_0 rfl (og8 c8) (og22 s28 kog1) (og34 c18 c20 kog18 kog16)) (fa27 123 (by decide))) (wS_un (c := ((a4 123).getD l4_4.toNatClampNeg 0)) (y := (l3_4 - 1)) O4_1 (hL4.I.2.1 128) (og38 c18 c20 wf9.2.1 kog18 kog16) (og24 p4_1.2) (og14 hs1) (og23 p4_0) (congrArg (fun z : List Int32 => z.getD l4_4.toNatClampNeg 0) (hL4.fa 123 rfl)) (og35 c20 kog16) (og39 s21 kog1) ((if_neg (og36 c20 kog16)).trans (if_pos (og41 c26 kog0))).symm (ea27) og40 (og22 s28 kog1)) (kj_meas (og27 s28 kog1) (og28 c8) hm4)
              ·
                have c29 : ((a4 123).getD l4_4.toNatClampNeg 0).toInt = (17 : Int32).toInt := kd_neF c; clear c
                exact (og42 c20 c29 kog16 kog17).elim
            ·
              have c30 : ((a4 123).getD l4_4.toNatClampNeg 0).toInt ≠ (16 : Int32).toInt := kd_eqF c; clear c
              refine ft_go mi_k161 2 78 [(5, .int ((a4 123).getD l4_4.toNatClampNeg 0)), (4, .int l4_4), (3, .int l3_4), (0, .ref 116), (1, .int x1), (2, .int x2)] [.int 17, .int ((a4 123).getD l4_4.toNatClampNeg 0)] i4 a4 q4 r4 (by rfl) ?_
              refine ft_if mi_k161 (((a4 123).getD l4_4.toNatClampNeg 0) != 17) 127 81 [(5, .int ((a4 123).getD l4_4.toNatClampNeg 0)), (4, .int l4_4), (3, .int l3_4), (0, .ref 116), (1, .int x1), (2, .int x2)] [] (by rfl) (fun c => ?_) (fun c => ?_)
              ·
                have c31 : ((a4 123).getD l4_4.toNatClampNeg 0).toInt ≠ (17 : Int32).toInt := kd_ne c; clear c
                have s32 : (l3_4 + (-1)).toInt = l3_4.toInt + ((-1) : Int32).toInt := kd_add (og43 p4_1.1 kogm1) (og44 p4_1.2 kogm1)
                have s33 : ((l3_4 + (-1)) - 1).toInt = (l3_4 + (-1)).toInt - (1 : Int32).toInt := kd_sub (og45 p4_1.1 s32 kogm1 kog1) (og46 p4_1.2 s32 kogm1 kog1)
                refine ft_go mi_k161 12 146 [(3, .int (l3_4 + (-1))), (5, .int ((a4 123).getD l4_4.toNatClampNeg 0)), (4, .int l4_4), (0, .ref 116), (1, .int x1), (2, .int x2)] [.int ((l3_4 + (-1)) - 1), .ref 128, .int ((a4 123).getD l4_4.toNatClampNeg 0), .int ((l3_4 + (-1)) - 1), .ref 128] i4 a4 q4 r4 (by rfl) ?_
                refine ko_iald3 mi_k161.1 (n := 200) (c := 200) (ax := (0, 0, 0, 0, 0)) (mi_k161.2 _ _ (by rfl)) (by rfl) (ksG128 _ _ _ _) (hL4.I.2.1 128) rfl (og47 c18 c19 c30 c31 s32 s33 wf9.2.2.1 kog18 kog5 kog16 kog17 kogm1 kog1) (og48 p4_1.2 s32 s33 kogm1 kog1) ?_
                refine ft_go mi_k161 3 152 [(3, .int (l3_4 + (-1))), (5, .int ((a4 123).getD l4_4.toNatClampNeg 0)), (4, .int l4_4), (0, .ref 116), (1, .int x1), (2, .int x2)] [.int (l3_4 + (-1)), .ref 128, .int ((a4 128).getD ((l3_4 + (-1)) - 1).toNatClampNeg 0), .int ((a4 123).getD l4_4.toNatClampNeg 0), .int ((l3_4 + (-1)) - 1), .ref 128] i4 a4 q4 r4 (by rfl) ?_
                refine ko_iald3 mi_k161.1 (n := 200) (c := 200) (ax := (0, 0, 0, 0, 0)) (mi_k161.2 _ _ (by rfl)) (by rfl) (ksG128 _ _ _ _) (hL4.I.2.1 128) rfl (og49 c18 c19 s32 wf9.2.1 wf9.2.2.1 kog18 kog5 kogm1) (og50 p4_1.2 s32 kogm1) ?_
                refine ko_callPI mi_k161.1 (pc := 153) (ls := [(3, .int (l3_4 + (-1))), (5, .int ((a4 123).getD l4_4.toNatClampNeg 0)), (4, .int l4_4), (0, .ref 116), (1, .int x1), (2, .int x2)]) (st := [.int ((a4 128).getD (l3_4 + (-1)).toNatClampNeg 0), .int ((a4 128).getD ((l3_4 + (-1)) - 1).toNatClampNeg 0), .int ((a4 123).getD l4_4.toNatClampNeg 0), .int ((l3_4 + (-1)) - 1), .ref 128]) (h := ks i4 a4 q4 r4) (i := (.invokestatic 221, 3, 160, 0, 9, 0, 421)) (mi_k161.2 _ _ (by rfl)) (ft_invS mi_pq160 (by rfl)) (cy := mi_c160) mi_pq160 rfl (ke160 hL4.I hL4.R ((a4 123).getD l4_4.toNatClampNeg 0) ((a4 128).getD ((l3_4 + (-1)) - 1).toNatClampNeg 0) ((a4 128).getD (l3_4 + (-1)).toNatClampNeg 0)) (by decide) ?_
                intro vg34 hg34
                obtain ⟨hg34, og34⟩ := hg34
                have q35 : vg34 = rBoth ((a4 123).getD l4_4.toNatClampNeg 0) ((a4 128).getD ((l3_4 + (-1)) - 1).toNatClampNeg 0) ((a4 128).getD (l3_4 + (-1)).toNatClampNeg 0) := og34
                refine ko_iast3 mi_k161.1 (n := 200) (c := 200) (ax := (0, 0, 0, 0, 0)) (mi_k161.2 _ _ (by rfl)) (by rfl) (ksG128 _ _ _ _) (ksA128 _ _ _ _) (hL4.I.2.1 128) rfl (og47 c18 c19 c30 c31 s32 s33 wf9.2.2.1 kog18 kog5 kog16 kog17 kogm1 kog1) (og48 p4_1.2 s32 s33 kogm1 kog1) ?_
                intro a36 ea36 fa36
                have hJ36 := kG_a3 hL4 128 rfl ea36 fa36 (kd_bd _)
                have s37 : (l4_4 + 1).toInt = l4_4.toInt + (1 : Int32).toInt := kd_add (og16 hs1 p4_0 kog1) (og17 c8 hs3 kog1)
                refine ft_go mi_k161 2 5 [(4, .int (l4_4 + 1)), (3, .int (l3_4 + (-1))), (5, .int ((a4 123).getD l4_4.toNatClampNeg 0)), (0, .ref 116), (1, .int x1), (2, .int x2)] [] i4 a36 q4 r4 (by rfl) ?_
                refine ko_perm [(4, .int (l4_4 + 1)), (3, .int (l3_4 + (-1))), (0, .ref 116), (1, .int x1), (2, .int x2)] (List.forall_mem_cons.mpr ⟨(List.Mem.head _), (List.forall_mem_cons.mpr ⟨(List.Mem.tail _ (List.Mem.head _)), (List.forall_mem_cons.mpr ⟨(List.Mem.tail _ (List.Mem.tail _ (List.Mem.tail _ (List.Mem.head _)))), (List.forall_mem_cons.mpr ⟨(List.Mem.tail _ (List.Mem.tail _ (List.Mem.tail _ (List.Mem.tail _ (List.Mem.head _))))), (List.forall_mem_cons.mpr ⟨(List.Mem.tail _ (List.Mem.tail _ (List.Mem.tail _ (List.Mem.tail _ (List.Mem.tail _ (List.Mem.head _)))))), (fun _ h => absurd h List.not_mem_nil)⟩)⟩)⟩)⟩)⟩) ?_
                exact ih4 _ _ _ _ _ _ hJ36 (og18 p4_0 s37 kog1) (og51 c18 c19 p4_1.2 s32 wf9.2.1 wf9.2.2.1 kog18 kog5 kogm1) (og20 c8 s37 kog1) (kWk_cast (kWk_next hS5 O4_0 rfl (og8 c8) (og22 s37 kog1) (og52 c18 c19 c30 c31 s32 kog18 kog5 kog16 kog17 kogm1)) (fa36 123 (by decide))) (wS_bin (c := ((a4 123).getD l4_4.toNatClampNeg 0)) (y := ((l3_4 + (-1)) - 1)) (z := (l3_4 + (-1))) O4_1 (hL4.I.2.1 128) (og53 c18 c19 c30 c31 wf9.2.2.1 kog18 kog5 kog16 kog17) (og24 p4_1.2) (og14 hs1) (og23 p4_0) (congrArg (fun z : List Int32 => z.getD l4_4.toNatClampNeg 0) (hL4.fa 123 rfl)) (og54 c19 kog5) (og55 c18 c30 c31 kog18 kog16 kog17) (og56 s32 s33 kogm1 kog1) (og57 s32 kogm1) og34 (ea36) (og57 s32 kogm1) (og22 s37 kog1)) (kj_meas (og27 s37 kog1) (og28 c8) hm4)
              ·
                have c38 : ((a4 123).getD l4_4.toNatClampNeg 0).toInt = (17 : Int32).toInt := kd_neF c; clear c
                have s39 : (l3_4 - 1).toInt = l3_4.toInt - (1 : Int32).toInt := kd_sub (og29 p4_1.1 kog1) (og30 p4_1.2 kog1)
                refine ft_go mi_k161 7 92 [(5, .int ((a4 123).getD l4_4.toNatClampNeg 0)), (4, .int l4_4), (3, .int l3_4), (0, .ref 116), (1, .int x1), (2, .int x2)] [.int 17, .int ((a4 123).getD l4_4.toNatClampNeg 0), .int (l3_4 - 1), .ref 128] i4 a4 q4 r4 (by rfl) ?_
                refine ft_if mi_k161 (((a4 123).getD l4_4.toNatClampNeg 0) != 17) 107 95 [(5, .int ((a4 123).getD l4_4.toNatClampNeg 0)), (4, .int l4_4), (3, .int l3_4), (0, .ref 116), (1, .int x1), (2, .int x2)] [.int (l3_4 - 1), .ref 128] (by rfl) (fun c => ?_) (fun c => ?_)
                ·
                  have c40 : ((a4 123).getD l4_4.toNatClampNeg 0).toInt ≠ (17 : Int32).toInt := kd_ne c; clear c
                  exact (og58 c18 c38 c40 kog18 kog17).elim
                ·
                  have c41 : ((a4 123).getD l4_4.toNatClampNeg 0).toInt = (17 : Int32).toInt := kd_neF c; clear c
                  refine ft_go mi_k161 5 102 [(5, .int ((a4 123).getD l4_4.toNatClampNeg 0)), (4, .int l4_4), (3, .int l3_4), (0, .ref 116), (1, .int x1), (2, .int x2)] [.int (l3_4 - 1), .ref 128, .int (l3_4 - 1), .ref 128] i4 a4 q4 r4 (by rfl) ?_
                  refine ko_iald3 mi_k161.1 (n := 200) (c := 200) (ax := (0, 0, 0, 0, 0)) (mi_k161.2 _ _ (by rfl)) (by rfl) (ksG128 _ _ _ _) (hL4.I.2.1 128) rfl (og59 c18 c38 s39 wf9.2.1 kog18 kog17 kog1) (og32 p4_1.2 s39 kog1) ?_
                  refine ft_go mi_k161 2 123 [(5, .int ((a4 123).getD l4_4.toNatClampNeg 0)), (4, .int l4_4), (3, .int l3_4), (0, .ref 116), (1, .int x1), (2, .int x2)] [.int (-((a4 128).getD (l3_4 - 1).toNatClampNeg 0)), .int (l3_4 - 1), .ref 128] i4 a4 q4 r4 (by rfl) ?_
                  refine ko_iast3 mi_k161.1 (n := 200) (c := 200) (ax := (0, 0, 0, 0, 0)) (mi_k161.2 _ _ (by rfl)) (by rfl) (ksG128 _ _ _ _) (ksA128 _ _ _ _) (hL4.I.2.1 128) rfl (og59 c18 c38 s39 wf9.2.1 kog18 kog17 kog1) (og32 p4_1.2 s39 kog1) ?_
                  intro a42 ea42 fa42
                  have hJ42 := kG_a3 hL4 128 rfl ea42 fa42 (kd_bd _)
                  have s43 : (l4_4 + 1).toInt = l4_4.toInt + (1 : Int32).toInt := kd_add (og16 hs1 p4_0 kog1) (og17 c8 hs3 kog1)
                  refine ft_go mi_k161 3 5 [(4, .int (l4_4 + 1)), (5, .int ((a4 123).getD l4_4.toNatClampNeg 0)), (3, .int l3_4), (0, .ref 116), (1, .int x1), (2, .int x2)] [] i4 a42 q4 r4 (by rfl) ?_
                  refine ko_perm [(4, .int (l4_4 + 1)), (3, .int l3_4), (0, .ref 116), (1, .int x1), (2, .int x2)] (List.forall_mem_cons.mpr ⟨(List.Mem.head _), (List.forall_mem_cons.mpr ⟨(List.Mem.tail _ (List.Mem.tail _ (List.Mem.head _))), (List.forall_mem_cons.mpr ⟨(List.Mem.tail _ (List.Mem.tail _ (List.Mem.tail _ (List.Mem.head _)))), (List.forall_mem_cons.mpr ⟨(List.Mem.tail _ (List.Mem.tail _ (List.Mem.tail _ (List.Mem.tail _ (List.Mem.head _))))), (List.forall_mem_cons.mpr ⟨(List.Mem.tail _ (List.Mem.tail _ (List.Mem.tail _ (List.Mem.tail _ (List.Mem.tail _ (List.Mem.head _)))))), (fun _ h => absurd h List.not_mem_nil)⟩)⟩)⟩)⟩)⟩) ?_
                  exact ih4 _ _ _ _ _ _ hJ42 (og18 p4_0 s43 kog1) (og33 p4_1.1 p4_1.2) (og20 c8 s43 kog1) (kWk_cast (kWk_next hS5 O4_0 rfl (og8 c8) (og22 s43 kog1) (og60 c18 c38 kog18 kog17)) (fa42 123 (by decide))) (wS_un (c := ((a4 123).getD l4_4.toNatClampNeg 0)) (y := (l3_4 - 1)) O4_1 (hL4.I.2.1 128) (og63 c18 c38 wf9.2.1 kog18 kog17) (og24 p4_1.2) (og14 hs1) (og23 p4_0) (congrArg (fun z : List Int32 => z.getD l4_4.toNatClampNeg 0) (hL4.fa 123 rfl)) (og61 c18 c38 kog18 kog17) (og39 s39 kog1) (if_pos (og62 c18 c38 kog18 kog17)).symm (ea42) og40 (og22 s43 kog1)) (kj_meas (og27 s43 kog1) (og28 c8) hm4)
          ·
            have c44 : ((a4 123).getD l4_4.toNatClampNeg 0).toInt ≤ (5 : Int32).toInt := kd_ltF c; clear c
            have s45 : (l3_4 + 1).toInt = l3_4.toInt + (1 : Int32).toInt := kd_add (og9 p4_1.1 kog1) (og10 p4_1.2 kog1)
            refine ft_go mi_k161 6 45 [(3, .int (l3_4 + 1)), (5, .int ((a4 123).getD l4_4.toNatClampNeg 0)), (4, .int l4_4), (0, .ref 116), (1, .int x1), (2, .int x2)] [.int 18, .int ((a4 123).getD l4_4.toNatClampNeg 0), .int l3_4, .ref 128] i4 a4 q4 r4 (by rfl) ?_
            refine ft_if mi_k161 (decide (((a4 123).getD l4_4.toNatClampNeg 0) < 18)) 56 48 [(3, .int (l3_4 + 1)), (5, .int ((a4 123).getD l4_4.toNatClampNeg 0)), (4, .int l4_4), (0, .ref 116), (1, .int x1), (2, .int x2)] [.int l3_4, .ref 128] (by rfl) (fun c => ?_) (fun c => ?_)
            ·
              have c46 : ((a4 123).getD l4_4.toNatClampNeg 0).toInt < (18 : Int32).toInt := kd_lt c; clear c
              refine ft_go mi_k161 3 62 [(3, .int (l3_4 + 1)), (5, .int ((a4 123).getD l4_4.toNatClampNeg 0)), (4, .int l4_4), (0, .ref 116), (1, .int x1), (2, .int x2)] [.int ((a4 123).getD l4_4.toNatClampNeg 0), .ref 129, .int l3_4, .ref 128] i4 a4 q4 r4 (by rfl) ?_
              refine ko_iald3 mi_k161.1 (n := 6) (c := 6) (ax := (0, 0, 0, 0, 0)) (mi_k161.2 _ _ (by rfl)) (by rfl) (ksG129 _ _ _ _) (hL4.I.2.1 129) rfl (og14 wf9.1) (og64 c44 kog5) ?_
              refine ko_iast3 mi_k161.1 (n := 200) (c := 200) (ax := (0, 0, 0, 0, 0)) (mi_k161.2 _ _ (by rfl)) (by rfl) (ksG128 _ _ _ _) (ksA128 _ _ _ _) (hL4.I.2.1 128) rfl (og14 p4_1.1) (og15 c8 hs3 wf9.2.2.2) ?_
              intro a47 ea47 fa47
              have hJ47 := kG_a3 hL4 128 rfl ea47 fa47 (kd_bd _)
              have s48 : (l4_4 + 1).toInt = l4_4.toInt + (1 : Int32).toInt := kd_add (og16 hs1 p4_0 kog1) (og17 c8 hs3 kog1)
              refine ft_go mi_k161 3 5 [(4, .int (l4_4 + 1)), (3, .int (l3_4 + 1)), (5, .int ((a4 123).getD l4_4.toNatClampNeg 0)), (0, .ref 116), (1, .int x1), (2, .int x2)] [] i4 a47 q4 r4 (by rfl) ?_
              refine ko_perm [(4, .int (l4_4 + 1)), (3, .int (l3_4 + 1)), (0, .ref 116), (1, .int x1), (2, .int x2)] (List.forall_mem_cons.mpr ⟨(List.Mem.head _), (List.forall_mem_cons.mpr ⟨(List.Mem.tail _ (List.Mem.head _)), (List.forall_mem_cons.mpr ⟨(List.Mem.tail _ (List.Mem.tail _ (List.Mem.tail _ (List.Mem.head _)))), (List.forall_mem_cons.mpr ⟨(List.Mem.tail _ (List.Mem.tail _ (List.Mem.tail _ (List.Mem.tail _ (List.Mem.head _))))), (List.forall_mem_cons.mpr ⟨(List.Mem.tail _ (List.Mem.tail _ (List.Mem.tail _ (List.Mem.tail _ (List.Mem.tail _ (List.Mem.head _)))))), (fun _ h => absurd h List.not_mem_nil)⟩)⟩)⟩)⟩)⟩) ?_
              exact ih4 _ _ _ _ _ _ hJ47 (og18 p4_0 s48 kog1) (og19 c8 hs3 p4_1.1 s45 wf9.2.2.2 kog1) (og20 c8 s48 kog1) (kWk_cast (kWk_next hS5 O4_0 rfl (og8 c8) (og22 s48 kog1) (og65 c44 s45 kog5 kog1)) (fa47 123 (by decide))) (wS_push (c := ((a4 123).getD l4_4.toNatClampNeg 0)) O4_1 (hL4.I.2.1 128) (og14 p4_1.1) (og15 c8 hs3 wf9.2.2.2) (og14 hs1) (og23 p4_0) (congrArg (fun z : List Int32 => z.getD l4_4.toNatClampNeg 0) (hL4.fa 123 rfl)) (og66 c44 kog5) ((congrArg (fun z : List Int32 => z.getD ((a4 123).getD l4_4.toNatClampNeg 0).toNatClampNeg 0) (hL4.fa 129 rfl)).trans (if_neg (og67 c18 kog18)).symm) (ea47) (og22 s45 kog1) (og22 s48 kog1)) (kj_meas (og27 s48 kog1) (og28 c8) hm4)
            ·
              have c49 : (18 : Int32).toInt ≤ ((a4 123).getD l4_4.toNatClampNeg 0).toInt := kd_ltF c; clear c
              exact (og68 c18 c49 kog18).elim
  exact lp4 _ _ _ _ _ _ _ (kG_self _ hG.I hG.R) og69 (og70 kog0) (og23 hs2) (kWk_begin hS rfl rfl kn0) (wS_start (x := x1) kog0) (Nat.lt_succ_self _)
def yw162_116 : kW := ([], [128, 129], [], [])
def yw162_116_L70 : kW := ([], [128], [], [])
