theorem oz1232 {a0 a1 : Int} (h0 : a0 ≤ a1) (h1 : a1 = 60) : a0 ≤ 99 := by omega
theorem oz1233 {a0 a1 a2 : Int} (h0 : a0 ≤ 40) (h1 : a1 = a0 - a2) (h2 : a2 = 1) : a1 < 40 := by omega
theorem oz1234 {a0 a1 : Int} (h0 : a0 < a1) (h1 : a1 ≤ 40) : a0 < 40 := by omega
theorem oz1235 {a0 a1 a2 a3 a4 : Int} (h0 : a0 < a1) (h1 : a2 = a0) (h2 : a1 ≤ 40) (h3 : a3 = a2 + a4) (h4 : a4 = 1) : a3 ≤ 40 := by omega
theorem oz1236 {a0 a1 : Int} (h0 : a0 < a1) (h1 : a1 = 50) : a0 < 50 := by omega
theorem oz1237 {a0 a1 a2 a3 : Int} (h0 : a0 < a1) (h1 : a2 = a0 + a3) (h2 : a1 = 50) (h3 : a3 = 1) : a2 ≤ 50 := by omega
theorem oz1238 {a0 a1 a2 : Int} (h0 : a0 ≤ 50) (h1 : a1 = a0 + a2) (h2 : a2 = 1) : a1 - a2 ≤ 2147483647 := by omega
theorem oz1239 {a0 a1 a2 : Int} (h0 : a0 ≤ a1) (h1 : a1 ≤ a2) (h2 : a0 = 0) (h3 : a2 = 7) : ((0 : Int) ≤ a1) ∧ (a1 ≤ 7) := by omega
theorem oz1240 {a0 a1 a2 a3 : Int} (h0 : (0 : Int) ≤ a0) (h1 : a1 = a0 ∨ a1 = a2) (h2 : a2 = 24) (h3 : a3 = 1) : (-2147483648 : Int) ≤ a1 - a3 := by omega
theorem oz1241 {a0 : Int} (h0 : a0 = 1) : a0 ≤ 2 := by omega
theorem oz1242 {a0 : Int} (h0 : a0 = 0) : a0 ≤ 2 := by omega
theorem oz1244 {a0 a1 a2 : Int} (h0 : a0 < a1) (h1 : a2 ≤ a0) (h2 : a1 ≤ 50) (h3 : a2 = 50) : False := by omega
theorem oz1245 {a0 : Int} (h0 : ¬ (a0 = 0)) (h1 : ¬ (a0 = 1)) (h2 : ¬ (a0 = 2)) (h3 : ¬ (a0 = 3)) (h4 : ¬ (a0 = 4)) (h5 : ¬ (a0 = 5)) (h6 : (0 : Int) ≤ a0) (h7 : a0 ≤ 5) : False := by omega
theorem oz1246 {a0 : Int} (h0 : a0 = 2) : a0 ≤ 2 := by omega
theorem oz1247 {a0 a1 a2 a3 : Int} (h0 : a0 ≤ a1) (h1 : a2 = a3 ∨ a2 = a0) (h2 : a1 = 60) (h3 : a3 = 0) : a2 ≤ 60 := by omega
def w101_0 : kW := ([645, 3200, 3206, 3207, 3208, 3209, 3214, 3215, 3216, 3586, 3781, 6405], [13, 51, 52, 53, 54, 55, 57, 58, 62, 63, 65, 66, 67, 68, 69, 70, 71, 72, 73, 103], [], [1])
def w101_0_L85 : kW := ([645, 3200, 3206, 3207, 3208, 3209, 3214, 3215, 3216, 3586, 3781, 6405], [13, 51, 52, 53, 54, 55, 57, 58, 62, 63, 65, 66, 67, 68, 69, 70, 71, 72, 73, 103], [], [1])
set_option maxRecDepth 100000 in
theorem kc101_0 {i : Nat → Int32} {a : Nat → List Int32} {q : Nat → List Int64} {r : Nat → Nat} (hI : kI i a q) (hr : kr r) (x1 : Int32) (x2 : Int32) (x3 : Int32) : km 11 101 [.ref 0, .int x1, .int x2, .int x3] (ks i a q r) (kVI w101_0 i a q r (fun v i1 a1 q1 r1 => True)) := by
  have hG := kG_self w101_0 hI hr
  refine km_ofI (q := (mi_h101, mi_c101)) rfl (by decide) (Nat.le_of_ble_eq_true rfl) ?_
  intro P hP
  have s1 : 0 ≤ x2.toInt → (x2 / 10000).toInt = (x2.toInt / 10000) := kd_div 10000 kn10000 (by decide)
  have s2 : 0 ≤ x2.toInt → (x2 / 100).toInt = (x2.toInt / 100) := kd_div 100 kn100 (by decide)
  have s3 : 0 ≤ (x2 / 100).toInt → ((x2 / 100) - (x2 / 100) / 100 * 100).toInt = ((x2 / 100).toInt % 100) := kd_rem 100 kn100 (by decide)
  have s4 : 0 ≤ x2.toInt → (x2 - x2 / 100 * 100).toInt = (x2.toInt % 100) := kd_rem 100 kn100 (by decide)
  refine ft_go mi_k101 15 23 [(6, .int (x2 - x2 / 100 * 100)), (5, .int ((x2 / 100) - (x2 / 100) / 100 * 100)), (4, .int (x2 / 10000)), (0, .ref 0), (1, .int x1), (2, .int x2), (3, .int x3)] [.int x2] i a q r (by rfl) ?_
  refine ft_if mi_k101 (decide (x2 < 0)) 59 26 [(6, .int (x2 - x2 / 100 * 100)), (5, .int ((x2 / 100) - (x2 / 100) / 100 * 100)), (4, .int (x2 / 10000)), (0, .ref 0), (1, .int x1), (2, .int x2), (3, .int x3)] [] (by rfl) (fun c => ?_) (fun c => ?_)
  ·
    have c5 : x2.toInt < (0 : Int32).toInt := kd_lt c; clear c
    refine ft_go mi_k101 1 60 [(6, .int (x2 - x2 / 100 * 100)), (5, .int ((x2 / 100) - (x2 / 100) / 100 * 100)), (4, .int (x2 / 10000)), (0, .ref 0), (1, .int x1), (2, .int x2), (3, .int x3)] [.int (-1)] i a q r (by rfl) ?_
    exact ft_ret mi_k101 (by rfl) (hP (-1) _ _ _ _ hG trivial)
  ·
    have c6 : (0 : Int32).toInt ≤ x2.toInt := kd_ltF c; clear c
    refine ft_go mi_k101 3 31 [(6, .int (x2 - x2 / 100 * 100)), (5, .int ((x2 / 100) - (x2 / 100) / 100 * 100)), (4, .int (x2 / 10000)), (0, .ref 0), (1, .int x1), (2, .int x2), (3, .int x3)] [.int 30, .int 1, .int (x2 / 10000)] i a q r (by rfl) ?_
    refine ko_callPI mi_k101.1 (pc := 31) (ls := [(6, .int (x2 - x2 / 100 * 100)), (5, .int ((x2 / 100) - (x2 / 100) / 100 * 100)), (4, .int (x2 / 10000)), (0, .ref 0), (1, .int x1), (2, .int x2), (3, .int x3)]) (st := [.int 30, .int 1, .int (x2 / 10000)]) (h := ks i a q r) (i := (.invokestatic 74, 3, 120, 0, 9, 0, 152)) (mi_k101.2 _ _ (by rfl)) (ft_invS mi_pq120 (by rfl)) (cy := mi_c120) mi_pq120 rfl (kc120 hG.I hG.R (x2 / 10000) 1 30) (by decide) ?_
    intro vg7 hg7
    rcases hg7 with ⟨eg7, hg7⟩ | ⟨eg7, hg7⟩
    ·
      subst eg7
      have z8 : ((1 : Int32).toInt ≤ (x2 / 10000).toInt) ∧ ((x2 / 10000).toInt ≤ (30 : Int32).toInt) := hg7
      refine ft_go mi_k101 4 42 [(6, .int (x2 - x2 / 100 * 100)), (5, .int ((x2 / 100) - (x2 / 100) / 100 * 100)), (4, .int (x2 / 10000)), (0, .ref 0), (1, .int x1), (2, .int x2), (3, .int x3)] [.int 60, .int 1, .int ((x2 / 100) - (x2 / 100) / 100 * 100)] i a q r (by rfl) ?_
      refine ko_callPI mi_k101.1 (pc := 42) (ls := [(6, .int (x2 - x2 / 100 * 100)), (5, .int ((x2 / 100) - (x2 / 100) / 100 * 100)), (4, .int (x2 / 10000)), (0, .ref 0), (1, .int x1), (2, .int x2), (3, .int x3)]) (st := [.int 60, .int 1, .int ((x2 / 100) - (x2 / 100) / 100 * 100)]) (h := ks i a q r) (i := (.invokestatic 74, 3, 120, 0, 9, 0, 152)) (mi_k101.2 _ _ (by rfl)) (ft_invS mi_pq120 (by rfl)) (cy := mi_c120) mi_pq120 rfl (kc120 hG.I hG.R ((x2 / 100) - (x2 / 100) / 100 * 100) 1 60) (by decide) ?_
      intro vg9 hg9
      rcases hg9 with ⟨eg9, hg9⟩ | ⟨eg9, hg9⟩
      ·
        subst eg9
        have z10 : ((1 : Int32).toInt ≤ ((x2 / 100) - (x2 / 100) / 100 * 100).toInt) ∧ (((x2 / 100) - (x2 / 100) / 100 * 100).toInt ≤ (60 : Int32).toInt) := hg9
        refine ft_go mi_k101 4 53 [(6, .int (x2 - x2 / 100 * 100)), (5, .int ((x2 / 100) - (x2 / 100) / 100 * 100)), (4, .int (x2 / 10000)), (0, .ref 0), (1, .int x1), (2, .int x2), (3, .int x3)] [.int 12, .int 0, .int (x2 - x2 / 100 * 100)] i a q r (by rfl) ?_
        refine ko_callPI mi_k101.1 (pc := 53) (ls := [(6, .int (x2 - x2 / 100 * 100)), (5, .int ((x2 / 100) - (x2 / 100) / 100 * 100)), (4, .int (x2 / 10000)), (0, .ref 0), (1, .int x1), (2, .int x2), (3, .int x3)]) (st := [.int 12, .int 0, .int (x2 - x2 / 100 * 100)]) (h := ks i a q r) (i := (.invokestatic 74, 3, 120, 0, 9, 0, 152)) (mi_k101.2 _ _ (by rfl)) (ft_invS mi_pq120 (by rfl)) (cy := mi_c120) mi_pq120 rfl (kc120 hG.I hG.R (x2 - x2 / 100 * 100) 0 12) (by decide) ?_
        intro vg11 hg11
        rcases hg11 with ⟨eg11, hg11⟩ | ⟨eg11, hg11⟩
        ·
          subst eg11
          have z12 : ((0 : Int32).toInt ≤ (x2 - x2 / 100 * 100).toInt) ∧ ((x2 - x2 / 100 * 100).toInt ≤ (12 : Int32).toInt) := hg11
          refine ft_go mi_k101 3 63 [(6, .int (x2 - x2 / 100 * 100)), (5, .int ((x2 / 100) - (x2 / 100) / 100 * 100)), (4, .int (x2 / 10000)), (0, .ref 0), (1, .int x1), (2, .int x2), (3, .int x3)] [.int (-1), .int x3] i a q r (by rfl) ?_
          refine ft_if mi_k101 (x3 == (-1)) 76 66 [(6, .int (x2 - x2 / 100 * 100)), (5, .int ((x2 / 100) - (x2 / 100) / 100 * 100)), (4, .int (x2 / 10000)), (0, .ref 0), (1, .int x1), (2, .int x2), (3, .int x3)] [] (by rfl) (fun c => ?_) (fun c => ?_)
          ·
            have c13 : x3.toInt = ((-1) : Int32).toInt := kd_eq c; clear c
            refine ft_go mi_k101 6 85 [(9, .int 0), (8, .int x1), (7, .int 0), (6, .int (x2 - x2 / 100 * 100)), (5, .int ((x2 / 100) - (x2 / 100) / 100 * 100)), (4, .int (x2 / 10000)), (0, .ref 0), (1, .int x1), (2, .int x2), (3, .int x3)] [] i a q r (by rfl) ?_
            have lp14 : ∀ (nz : Nat) (i14 : Nat → Int32) (a14 : Nat → List Int32) (q14 : Nat → List Int64) (r14 : Nat → Nat) (l9_14 : Int32) (l8_14 : Int32) (l7_14 : Int32), kG w101_0_L85 i a q r i14 a14 q14 r14 → (0 : Int) ≤ l9_14.toInt → (((x2 / 10000).toInt - l9_14.toInt)).toNat < nz → ko 11 (mi_h101, mi_c101) P (85, [(9, .int l9_14), (8, .int l8_14), (7, .int l7_14), (6, .int (x2 - x2 / 100 * 100)), (5, .int ((x2 / 100) - (x2 / 100) / 100 * 100)), (4, .int (x2 / 10000)), (0, .ref 0), (1, .int x1), (2, .int x2), (3, .int x3)], [], (0, 0), ks i14 a14 q14 r14) := by
              intro nz
              induction nz with
              | zero =>
                intro _ _ _ _ _ _ _ _ _ hm
                exact absurd hm (Nat.not_lt_zero _)
              | succ nz ih14 =>
                intro i14 a14 q14 r14 l9_14 l8_14 l7_14 hL14 p14_0 hm14
                refine ft_go mi_k101 2 89 [(9, .int l9_14), (8, .int l8_14), (7, .int l7_14), (6, .int (x2 - x2 / 100 * 100)), (5, .int ((x2 / 100) - (x2 / 100) / 100 * 100)), (4, .int (x2 / 10000)), (0, .ref 0), (1, .int x1), (2, .int x2), (3, .int x3)] [.int (x2 / 10000), .int l9_14] i14 a14 q14 r14 (by rfl) ?_
                refine ft_if mi_k101 (decide ((x2 / 10000) ≤ l9_14)) 130 92 [(9, .int l9_14), (8, .int l8_14), (7, .int l7_14), (6, .int (x2 - x2 / 100 * 100)), (5, .int ((x2 / 100) - (x2 / 100) / 100 * 100)), (4, .int (x2 / 10000)), (0, .ref 0), (1, .int x1), (2, .int x2), (3, .int x3)] [] (by rfl) (fun c => ?_) (fun c => ?_)
                ·
                  have c15 : (x2 / 10000).toInt ≤ l9_14.toInt := kd_le c; clear c
                  have hG16 := kG_call hG hL14 (by decide +kernel)
                  refine ft_go mi_k101 1 132 [(9, .int l9_14), (8, .int l8_14), (7, .int l7_14), (6, .int (x2 - x2 / 100 * 100)), (5, .int ((x2 / 100) - (x2 / 100) / 100 * 100)), (4, .int (x2 / 10000)), (0, .ref 0), (1, .int x1), (2, .int x2), (3, .int x3)] [.int l7_14] i14 a14 q14 r14 (by rfl) ?_
                  exact ft_ret mi_k101 (by rfl) (hP l7_14 _ _ _ _ hG16 trivial)
                ·
                  have c17 : l9_14.toInt < (x2 / 10000).toInt := kd_leF c; clear c
                  refine ft_go mi_k101 7 106 [(9, .int l9_14), (8, .int l8_14), (7, .int l7_14), (6, .int (x2 - x2 / 100 * 100)), (5, .int ((x2 / 100) - (x2 / 100) / 100 * 100)), (4, .int (x2 / 10000)), (0, .ref 0), (1, .int x1), (2, .int x2), (3, .int x3)] [.int (x2 - x2 / 100 * 100), .int ((x2 / 100) - (x2 / 100) / 100 * 100), .int l8_14, .ref 1, .ref 49] i14 a14 q14 r14 (by rfl) ?_
                  refine ko_callI mi_k101.1 (pc := 106) (ls := [(9, .int l9_14), (8, .int l8_14), (7, .int l7_14), (6, .int (x2 - x2 / 100 * 100)), (5, .int ((x2 / 100) - (x2 / 100) / 100 * 100)), (4, .int (x2 / 10000)), (0, .ref 0), (1, .int x1), (2, .int x2), (3, .int x3)]) (st := [.int (x2 - x2 / 100 * 100), .int ((x2 / 100) - (x2 / 100) / 100 * 100), .int l8_14, .ref 1, .ref 49]) (h := ks i14 a14 q14 r14) (i := (.invokevirtual 251, 3, 78, 0, 9, 0, 278)) (mi_k101.2 _ _ (by rfl)) (ft_invS mi_pq78 (by rfl)) (cy := mi_c78) mi_pq78 rfl (kc78_49_1 hL14.I hL14.R l8_14 ((x2 / 100) - (x2 / 100) / 100 * 100) (x2 - x2 / 100 * 100) (oz1232 z10.2 kn60)) (by decide) ?_
                  intro vg18 ig18 ag18 qg18 rg18 kg18 hg18
                  have hGg18 := kG_call hL14 kg18 (by decide +kernel)
                  refine ft_go mi_k101 5 118 [(8, .int vg18), (9, .int l9_14), (7, .int l7_14), (6, .int (x2 - x2 / 100 * 100)), (5, .int ((x2 / 100) - (x2 / 100) / 100 * 100)), (4, .int (x2 / 10000)), (0, .ref 0), (1, .int x1), (2, .int x2), (3, .int x3)] [.int x3, .ref 49, .int l7_14] ig18 ag18 qg18 rg18 (by rfl) ?_
                  refine ko_callPI mi_k101.1 (pc := 118) (ls := [(8, .int vg18), (9, .int l9_14), (7, .int l7_14), (6, .int (x2 - x2 / 100 * 100)), (5, .int ((x2 / 100) - (x2 / 100) / 100 * 100)), (4, .int (x2 / 10000)), (0, .ref 0), (1, .int x1), (2, .int x2), (3, .int x3)]) (st := [.int x3, .ref 49, .int l7_14]) (h := ks ig18 ag18 qg18 rg18) (i := (.invokevirtual 171, 3, 62, 0, 9, 0, 233)) (mi_k101.2 _ _ (by rfl)) (ft_invS mi_pq62 (by rfl)) (cy := mi_c62) mi_pq62 rfl (kc62_49 hGg18.I hGg18.R x3) (by decide) ?_
                  intro vg19 hg19
                  have b20 : ((-2147483648 : Int) ≤ l7_14.toInt) ∧ (l7_14.toInt ≤ 2147483647) := kd_bd l7_14
                  have b21 : ((-2147483648 : Int) ≤ vg19.toInt) ∧ (vg19.toInt ≤ 2147483647) := kd_bd vg19
                  have s22 : (l9_14 + 1).toInt = l9_14.toInt + (1 : Int32).toInt := kd_add (oz12 p14_0 kn1) (oz537 c17 z8.2 kn30 kn1)
                  refine ft_go mi_k101 4 85 [(9, .int (l9_14 + 1)), (7, .int (l7_14 + vg19)), (8, .int vg18), (6, .int (x2 - x2 / 100 * 100)), (5, .int ((x2 / 100) - (x2 / 100) / 100 * 100)), (4, .int (x2 / 10000)), (0, .ref 0), (1, .int x1), (2, .int x2), (3, .int x3)] [] ig18 ag18 qg18 rg18 (by rfl) ?_
                  refine ko_perm [(9, .int (l9_14 + 1)), (8, .int vg18), (7, .int (l7_14 + vg19)), (6, .int (x2 - x2 / 100 * 100)), (5, .int ((x2 / 100) - (x2 / 100) / 100 * 100)), (4, .int (x2 / 10000)), (0, .ref 0), (1, .int x1), (2, .int x2), (3, .int x3)] (List.forall_mem_cons.mpr ⟨(List.Mem.head _), (List.forall_mem_cons.mpr ⟨(List.Mem.tail _ (List.Mem.tail _ (List.Mem.head _))), (List.forall_mem_cons.mpr ⟨(List.Mem.tail _ (List.Mem.head _)), (List.forall_mem_cons.mpr ⟨(List.Mem.tail _ (List.Mem.tail _ (List.Mem.tail _ (List.Mem.head _)))), (List.forall_mem_cons.mpr ⟨(List.Mem.tail _ (List.Mem.tail _ (List.Mem.tail _ (List.Mem.tail _ (List.Mem.head _))))), (List.forall_mem_cons.mpr ⟨(List.Mem.tail _ (List.Mem.tail _ (List.Mem.tail _ (List.Mem.tail _ (List.Mem.tail _ (List.Mem.head _)))))), (List.forall_mem_cons.mpr ⟨(List.Mem.tail _ (List.Mem.tail _ (List.Mem.tail _ (List.Mem.tail _ (List.Mem.tail _ (List.Mem.tail _ (List.Mem.head _))))))), (List.forall_mem_cons.mpr ⟨(List.Mem.tail _ (List.Mem.tail _ (List.Mem.tail _ (List.Mem.tail _ (List.Mem.tail _ (List.Mem.tail _ (List.Mem.tail _ (List.Mem.head _)))))))), (List.forall_mem_cons.mpr ⟨(List.Mem.tail _ (List.Mem.tail _ (List.Mem.tail _ (List.Mem.tail _ (List.Mem.tail _ (List.Mem.tail _ (List.Mem.tail _ (List.Mem.tail _ (List.Mem.head _))))))))), (List.forall_mem_cons.mpr ⟨(List.Mem.tail _ (List.Mem.tail _ (List.Mem.tail _ (List.Mem.tail _ (List.Mem.tail _ (List.Mem.tail _ (List.Mem.tail _ (List.Mem.tail _ (List.Mem.tail _ (List.Mem.head _)))))))))), (fun _ h => absurd h List.not_mem_nil)⟩)⟩)⟩)⟩)⟩)⟩)⟩)⟩)⟩)⟩) ?_
                  exact ih14 _ _ _ _ _ _ _ hGg18 (oz14 p14_0 s22 kn1) (kj_meas (oz44 s22 kn1) (oz45 c17) hm14)
            exact lp14 _ _ _ _ _ _ _ _ (kG_self _ hG.I hG.R) (oz46 kn0) (Nat.lt_succ_self _)
          ·
            have c23 : x3.toInt ≠ ((-1) : Int32).toInt := kd_eqF c; clear c
            refine ft_go mi_k101 2 68 [(6, .int (x2 - x2 / 100 * 100)), (5, .int ((x2 / 100) - (x2 / 100) / 100 * 100)), (4, .int (x2 / 10000)), (0, .ref 0), (1, .int x1), (2, .int x2), (3, .int x3)] [.int x3, .ref 0] i a q r (by rfl) ?_
            refine ko_callPI mi_k101.1 (pc := 68) (ls := [(6, .int (x2 - x2 / 100 * 100)), (5, .int ((x2 / 100) - (x2 / 100) / 100 * 100)), (4, .int (x2 / 10000)), (0, .ref 0), (1, .int x1), (2, .int x2), (3, .int x3)]) (st := [.int x3, .ref 0]) (h := ks i a q r) (i := (.invokevirtual 141, 3, 123, 0, 9, 0, 162)) (mi_k101.2 _ _ (by rfl)) (ft_invS mi_pq123 (by rfl)) (cy := mi_c123) mi_pq123 rfl (kc123_0 hG.I hG.R x3) (by decide) ?_
            intro vg24 hg24
            rcases hg24 with ⟨eg24, hg24⟩ | ⟨eg24, hg24⟩
            ·
              subst eg24
              have fi_64 : ((0 : Int) ≤ (i 64).toInt) ∧ ((i 64).toInt ≤ 8) := hG.I.1 64
              have z25 : ((0 : Int) ≤ x3.toInt) ∧ (x3.toInt < (i 64).toInt) := hg24
              refine ft_go mi_k101 7 85 [(9, .int 0), (8, .int x1), (7, .int 0), (6, .int (x2 - x2 / 100 * 100)), (5, .int ((x2 / 100) - (x2 / 100) / 100 * 100)), (4, .int (x2 / 10000)), (0, .ref 0), (1, .int x1), (2, .int x2), (3, .int x3)] [] i a q r (by rfl) ?_
              have lp26 : ∀ (nz : Nat) (i26 : Nat → Int32) (a26 : Nat → List Int32) (q26 : Nat → List Int64) (r26 : Nat → Nat) (l9_26 : Int32) (l8_26 : Int32) (l7_26 : Int32), kG w101_0_L85 i a q r i26 a26 q26 r26 → (0 : Int) ≤ l9_26.toInt → (((x2 / 10000).toInt - l9_26.toInt)).toNat < nz → ko 11 (mi_h101, mi_c101) P (85, [(9, .int l9_26), (8, .int l8_26), (7, .int l7_26), (6, .int (x2 - x2 / 100 * 100)), (5, .int ((x2 / 100) - (x2 / 100) / 100 * 100)), (4, .int (x2 / 10000)), (0, .ref 0), (1, .int x1), (2, .int x2), (3, .int x3)], [], (0, 0), ks i26 a26 q26 r26) := by
                intro nz
                induction nz with
                | zero =>
                  intro _ _ _ _ _ _ _ _ _ hm
                  exact absurd hm (Nat.not_lt_zero _)
                | succ nz ih26 =>
                  intro i26 a26 q26 r26 l9_26 l8_26 l7_26 hL26 p26_0 hm26
                  refine ft_go mi_k101 2 89 [(9, .int l9_26), (8, .int l8_26), (7, .int l7_26), (6, .int (x2 - x2 / 100 * 100)), (5, .int ((x2 / 100) - (x2 / 100) / 100 * 100)), (4, .int (x2 / 10000)), (0, .ref 0), (1, .int x1), (2, .int x2), (3, .int x3)] [.int (x2 / 10000), .int l9_26] i26 a26 q26 r26 (by rfl) ?_
                  refine ft_if mi_k101 (decide ((x2 / 10000) ≤ l9_26)) 130 92 [(9, .int l9_26), (8, .int l8_26), (7, .int l7_26), (6, .int (x2 - x2 / 100 * 100)), (5, .int ((x2 / 100) - (x2 / 100) / 100 * 100)), (4, .int (x2 / 10000)), (0, .ref 0), (1, .int x1), (2, .int x2), (3, .int x3)] [] (by rfl) (fun c => ?_) (fun c => ?_)
                  ·
                    have c27 : (x2 / 10000).toInt ≤ l9_26.toInt := kd_le c; clear c
                    have hG28 := kG_call hG hL26 (by decide +kernel)
                    refine ft_go mi_k101 1 132 [(9, .int l9_26), (8, .int l8_26), (7, .int l7_26), (6, .int (x2 - x2 / 100 * 100)), (5, .int ((x2 / 100) - (x2 / 100) / 100 * 100)), (4, .int (x2 / 10000)), (0, .ref 0), (1, .int x1), (2, .int x2), (3, .int x3)] [.int l7_26] i26 a26 q26 r26 (by rfl) ?_
                    exact ft_ret mi_k101 (by rfl) (hP l7_26 _ _ _ _ hG28 trivial)
                  ·
                    have c29 : l9_26.toInt < (x2 / 10000).toInt := kd_leF c; clear c
                    refine ft_go mi_k101 7 106 [(9, .int l9_26), (8, .int l8_26), (7, .int l7_26), (6, .int (x2 - x2 / 100 * 100)), (5, .int ((x2 / 100) - (x2 / 100) / 100 * 100)), (4, .int (x2 / 10000)), (0, .ref 0), (1, .int x1), (2, .int x2), (3, .int x3)] [.int (x2 - x2 / 100 * 100), .int ((x2 / 100) - (x2 / 100) / 100 * 100), .int l8_26, .ref 1, .ref 49] i26 a26 q26 r26 (by rfl) ?_
                    refine ko_callI mi_k101.1 (pc := 106) (ls := [(9, .int l9_26), (8, .int l8_26), (7, .int l7_26), (6, .int (x2 - x2 / 100 * 100)), (5, .int ((x2 / 100) - (x2 / 100) / 100 * 100)), (4, .int (x2 / 10000)), (0, .ref 0), (1, .int x1), (2, .int x2), (3, .int x3)]) (st := [.int (x2 - x2 / 100 * 100), .int ((x2 / 100) - (x2 / 100) / 100 * 100), .int l8_26, .ref 1, .ref 49]) (h := ks i26 a26 q26 r26) (i := (.invokevirtual 251, 3, 78, 0, 9, 0, 278)) (mi_k101.2 _ _ (by rfl)) (ft_invS mi_pq78 (by rfl)) (cy := mi_c78) mi_pq78 rfl (kc78_49_1 hL26.I hL26.R l8_26 ((x2 / 100) - (x2 / 100) / 100 * 100) (x2 - x2 / 100 * 100) (oz1232 z10.2 kn60)) (by decide) ?_
                    intro vg30 ig30 ag30 qg30 rg30 kg30 hg30
                    have hGg30 := kG_call hL26 kg30 (by decide +kernel)
                    refine ft_go mi_k101 5 118 [(8, .int vg30), (9, .int l9_26), (7, .int l7_26), (6, .int (x2 - x2 / 100 * 100)), (5, .int ((x2 / 100) - (x2 / 100) / 100 * 100)), (4, .int (x2 / 10000)), (0, .ref 0), (1, .int x1), (2, .int x2), (3, .int x3)] [.int x3, .ref 49, .int l7_26] ig30 ag30 qg30 rg30 (by rfl) ?_
                    refine ko_callPI mi_k101.1 (pc := 118) (ls := [(8, .int vg30), (9, .int l9_26), (7, .int l7_26), (6, .int (x2 - x2 / 100 * 100)), (5, .int ((x2 / 100) - (x2 / 100) / 100 * 100)), (4, .int (x2 / 10000)), (0, .ref 0), (1, .int x1), (2, .int x2), (3, .int x3)]) (st := [.int x3, .ref 49, .int l7_26]) (h := ks ig30 ag30 qg30 rg30) (i := (.invokevirtual 171, 3, 62, 0, 9, 0, 233)) (mi_k101.2 _ _ (by rfl)) (ft_invS mi_pq62 (by rfl)) (cy := mi_c62) mi_pq62 rfl (kc62_49 hGg30.I hGg30.R x3) (by decide) ?_
                    intro vg31 hg31
                    have b32 : ((-2147483648 : Int) ≤ l7_26.toInt) ∧ (l7_26.toInt ≤ 2147483647) := kd_bd l7_26
                    have b33 : ((-2147483648 : Int) ≤ vg31.toInt) ∧ (vg31.toInt ≤ 2147483647) := kd_bd vg31
                    have s34 : (l9_26 + 1).toInt = l9_26.toInt + (1 : Int32).toInt := kd_add (oz12 p26_0 kn1) (oz537 c29 z8.2 kn30 kn1)
                    refine ft_go mi_k101 4 85 [(9, .int (l9_26 + 1)), (7, .int (l7_26 + vg31)), (8, .int vg30), (6, .int (x2 - x2 / 100 * 100)), (5, .int ((x2 / 100) - (x2 / 100) / 100 * 100)), (4, .int (x2 / 10000)), (0, .ref 0), (1, .int x1), (2, .int x2), (3, .int x3)] [] ig30 ag30 qg30 rg30 (by rfl) ?_
                    refine ko_perm [(9, .int (l9_26 + 1)), (8, .int vg30), (7, .int (l7_26 + vg31)), (6, .int (x2 - x2 / 100 * 100)), (5, .int ((x2 / 100) - (x2 / 100) / 100 * 100)), (4, .int (x2 / 10000)), (0, .ref 0), (1, .int x1), (2, .int x2), (3, .int x3)] (List.forall_mem_cons.mpr ⟨(List.Mem.head _), (List.forall_mem_cons.mpr ⟨(List.Mem.tail _ (List.Mem.tail _ (List.Mem.head _))), (List.forall_mem_cons.mpr ⟨(List.Mem.tail _ (List.Mem.head _)), (List.forall_mem_cons.mpr ⟨(List.Mem.tail _ (List.Mem.tail _ (List.Mem.tail _ (List.Mem.head _)))), (List.forall_mem_cons.mpr ⟨(List.Mem.tail _ (List.Mem.tail _ (List.Mem.tail _ (List.Mem.tail _ (List.Mem.head _))))), (List.forall_mem_cons.mpr ⟨(List.Mem.tail _ (List.Mem.tail _ (List.Mem.tail _ (List.Mem.tail _ (List.Mem.tail _ (List.Mem.head _)))))), (List.forall_mem_cons.mpr ⟨(List.Mem.tail _ (List.Mem.tail _ (List.Mem.tail _ (List.Mem.tail _ (List.Mem.tail _ (List.Mem.tail _ (List.Mem.head _))))))), (List.forall_mem_cons.mpr ⟨(List.Mem.tail _ (List.Mem.tail _ (List.Mem.tail _ (List.Mem.tail _ (List.Mem.tail _ (List.Mem.tail _ (List.Mem.tail _ (List.Mem.head _)))))))), (List.forall_mem_cons.mpr ⟨(List.Mem.tail _ (List.Mem.tail _ (List.Mem.tail _ (List.Mem.tail _ (List.Mem.tail _ (List.Mem.tail _ (List.Mem.tail _ (List.Mem.tail _ (List.Mem.head _))))))))), (List.forall_mem_cons.mpr ⟨(List.Mem.tail _ (List.Mem.tail _ (List.Mem.tail _ (List.Mem.tail _ (List.Mem.tail _ (List.Mem.tail _ (List.Mem.tail _ (List.Mem.tail _ (List.Mem.tail _ (List.Mem.head _)))))))))), (fun _ h => absurd h List.not_mem_nil)⟩)⟩)⟩)⟩)⟩)⟩)⟩)⟩)⟩)⟩) ?_
                    exact ih26 _ _ _ _ _ _ _ hGg30 (oz14 p26_0 s34 kn1) (kj_meas (oz44 s34 kn1) (oz45 c29) hm26)
              exact lp26 _ _ _ _ _ _ _ _ (kG_self _ hG.I hG.R) (oz46 kn0) (Nat.lt_succ_self _)
            ·
              subst eg24
              have fi_64 : ((0 : Int) ≤ (i 64).toInt) ∧ ((i 64).toInt ≤ 8) := hG.I.1 64
              have z35 : ¬ (((0 : Int) ≤ x3.toInt) ∧ (x3.toInt < (i 64).toInt)) := hg24
              refine ft_go mi_k101 2 75 [(6, .int (x2 - x2 / 100 * 100)), (5, .int ((x2 / 100) - (x2 / 100) / 100 * 100)), (4, .int (x2 / 10000)), (0, .ref 0), (1, .int x1), (2, .int x2), (3, .int x3)] [.int (-1)] i a q r (by rfl) ?_
              exact ft_ret mi_k101 (by rfl) (hP (-1) _ _ _ _ hG trivial)
        ·
          subst eg11
          have z36 : ¬ (((0 : Int32).toInt ≤ (x2 - x2 / 100 * 100).toInt) ∧ ((x2 - x2 / 100 * 100).toInt ≤ (12 : Int32).toInt)) := hg11
          refine ft_go mi_k101 2 60 [(6, .int (x2 - x2 / 100 * 100)), (5, .int ((x2 / 100) - (x2 / 100) / 100 * 100)), (4, .int (x2 / 10000)), (0, .ref 0), (1, .int x1), (2, .int x2), (3, .int x3)] [.int (-1)] i a q r (by rfl) ?_
          exact ft_ret mi_k101 (by rfl) (hP (-1) _ _ _ _ hG trivial)
      ·
        subst eg9
        have z37 : ¬ (((1 : Int32).toInt ≤ ((x2 / 100) - (x2 / 100) / 100 * 100).toInt) ∧ (((x2 / 100) - (x2 / 100) / 100 * 100).toInt ≤ (60 : Int32).toInt)) := hg9
        refine ft_go mi_k101 2 60 [(6, .int (x2 - x2 / 100 * 100)), (5, .int ((x2 / 100) - (x2 / 100) / 100 * 100)), (4, .int (x2 / 10000)), (0, .ref 0), (1, .int x1), (2, .int x2), (3, .int x3)] [.int (-1)] i a q r (by rfl) ?_
        exact ft_ret mi_k101 (by rfl) (hP (-1) _ _ _ _ hG trivial)
    ·
      subst eg7
      have z38 : ¬ (((1 : Int32).toInt ≤ (x2 / 10000).toInt) ∧ ((x2 / 10000).toInt ≤ (30 : Int32).toInt)) := hg7
      refine ft_go mi_k101 2 60 [(6, .int (x2 - x2 / 100 * 100)), (5, .int ((x2 / 100) - (x2 / 100) / 100 * 100)), (4, .int (x2 / 10000)), (0, .ref 0), (1, .int x1), (2, .int x2), (3, .int x3)] [.int (-1)] i a q r (by rfl) ?_
      exact ft_ret mi_k101 (by rfl) (hP (-1) _ _ _ _ hG trivial)
def w21_10_24 : kW := ([645], [13], [], [])
def w21_10_24_L9 : kW := ([645], [13], [], [])
set_option maxRecDepth 100000 in
theorem kc21_10_24 {i : Nat → Int32} {a : Nat → List Int32} {q : Nat → List Int64} {r : Nat → Nat} (hI : kI i a q) (hr : kr r)  : km 3 21 [.ref 10, .ref 24] (ks i a q r) (kVI w21_10_24 i a q r (fun v i1 a1 q1 r1 => True)) := by
  have hG := kG_self w21_10_24 hI hr
  refine km_ofI (q := (mi_h21, mi_c21)) rfl (by decide) (Nat.le_of_ble_eq_true rfl) ?_
  intro P hP
  have hJ1 := kG_i hG 645 rfl (v := 0) ⟨(oz46 kn0), (oz1033 kn0)⟩
  first | refine ft_go mi_k21 7 9 [(3, .int 0), (2, .int 0), (0, .ref 10), (1, .ref 24)] [] (ku i 645 0) a q r (by rfl) ?_ | refine ko_steps mi_in21 7 _ (9, [(3, .int 0), (2, .int 0), (0, .ref 10), (1, .ref 24)], [], (0, 0), ks (ku i 645 0) a q r) (by rfl) ?_
  have lp2 : ∀ (nz : Nat) (i2 : Nat → Int32) (a2 : Nat → List Int32) (q2 : Nat → List Int64) (r2 : Nat → Nat) (l3_2 : Int32) (l2_2 : Int32), kG w21_10_24_L9 (ku i 645 0) a q r i2 a2 q2 r2 → (0 : Int) ≤ l3_2.toInt → ((121 - l3_2.toInt)).toNat < nz → ko 3 (mi_h21, mi_c21) P (9, [(3, .int l3_2), (2, .int l2_2), (0, .ref 10), (1, .ref 24)], [], (0, 0), ks i2 a2 q2 r2) := by
    intro nz
    induction nz with
    | zero =>
      intro _ _ _ _ _ _ _ _ hm
      exact absurd hm (Nat.not_lt_zero _)
    | succ nz ih2 =>
      intro i2 a2 q2 r2 l3_2 l2_2 hL2 p2_0 hm2
      first | refine ft_go mi_k21 2 12 [(3, .int l3_2), (2, .int l2_2), (0, .ref 10), (1, .ref 24)] [.int 121, .int l3_2] i2 a2 q2 r2 (by rfl) ?_ | refine ko_steps mi_in21 2 _ (12, [(3, .int l3_2), (2, .int l2_2), (0, .ref 10), (1, .ref 24)], [.int 121, .int l3_2], (0, 0), ks i2 a2 q2 r2) (by rfl) ?_
      refine ft_if mi_k21 (decide (121 ≤ l3_2)) 220 15 [(3, .int l3_2), (2, .int l2_2), (0, .ref 10), (1, .ref 24)] [] (by rfl) (fun c => ?_) (fun c => ?_)
      ·
        have c3 : (121 : Int32).toInt ≤ l3_2.toInt := kd_le c; clear c
        have hG4 := kG_call hJ1 hL2 (by decide +kernel)
        first | refine ft_go mi_k21 1 221 [(3, .int l3_2), (2, .int l2_2), (0, .ref 10), (1, .ref 24)] [.int 0] i2 a2 q2 r2 (by rfl) ?_ | refine ko_steps mi_in21 1 _ (221, [(3, .int l3_2), (2, .int l2_2), (0, .ref 10), (1, .ref 24)], [.int 0], (0, 0), ks i2 a2 q2 r2) (by rfl) ?_
        exact ft_ret mi_k21 (by rfl) (hP 0 _ _ _ _ hG4 trivial)
      ·
        have c5 : l3_2.toInt < (121 : Int32).toInt := kd_leF c; clear c
        first | refine ft_go mi_k21 1 16 [(3, .int l3_2), (2, .int l2_2), (0, .ref 10), (1, .ref 24)] [.int l2_2] i2 a2 q2 r2 (by rfl) ?_ | refine ko_steps mi_in21 1 _ (16, [(3, .int l3_2), (2, .int l2_2), (0, .ref 10), (1, .ref 24)], [.int l2_2], (0, 0), ks i2 a2 q2 r2) (by rfl) ?_
        refine ft_if mi_k21 (decide (l2_2 < 0)) 220 19 [(3, .int l3_2), (2, .int l2_2), (0, .ref 10), (1, .ref 24)] [] (by rfl) (fun c => ?_) (fun c => ?_)
        ·
          have c6 : l2_2.toInt < (0 : Int32).toInt := kd_lt c; clear c
          have hG7 := kG_call hJ1 hL2 (by decide +kernel)
          first | refine ft_go mi_k21 1 221 [(3, .int l3_2), (2, .int l2_2), (0, .ref 10), (1, .ref 24)] [.int 0] i2 a2 q2 r2 (by rfl) ?_ | refine ko_steps mi_in21 1 _ (221, [(3, .int l3_2), (2, .int l2_2), (0, .ref 10), (1, .ref 24)], [.int 0], (0, 0), ks i2 a2 q2 r2) (by rfl) ?_
          exact ft_ret mi_k21 (by rfl) (hP 0 _ _ _ _ hG7 trivial)
        ·
          have c8 : (0 : Int32).toInt ≤ l2_2.toInt := kd_ltF c; clear c
          have fi2_643 : ((0 : Int) ≤ (i2 643).toInt) ∧ ((i2 643).toInt ≤ 121) := hL2.I.1 643
          have fi_643 : ((0 : Int) ≤ (i 643).toInt) ∧ ((i 643).toInt ≤ 121) := hJ1.I.1 643
          have efi2_643 : (i2 643).toInt = (i 643).toInt := hL2.ti 643 rfl
          first | refine ft_go mi_k21 3 24 [(3, .int l3_2), (2, .int l2_2), (0, .ref 10), (1, .ref 24)] [.int (i2 643), .int l2_2] i2 a2 q2 r2 (by rfl) ?_ | refine ko_steps mi_in21 3 _ (24, [(3, .int l3_2), (2, .int l2_2), (0, .ref 10), (1, .ref 24)], [.int (i2 643), .int l2_2], (0, 0), ks i2 a2 q2 r2) (by rfl) ?_
          refine ft_if mi_k21 (decide ((i2 643) ≤ l2_2)) 220 27 [(3, .int l3_2), (2, .int l2_2), (0, .ref 10), (1, .ref 24)] [] (by rfl) (fun c => ?_) (fun c => ?_)
          ·
            have c9 : (i2 643).toInt ≤ l2_2.toInt := kd_le c; clear c
            have hG10 := kG_call hJ1 hL2 (by decide +kernel)
            first | refine ft_go mi_k21 1 221 [(3, .int l3_2), (2, .int l2_2), (0, .ref 10), (1, .ref 24)] [.int 0] i2 a2 q2 r2 (by rfl) ?_ | refine ko_steps mi_in21 1 _ (221, [(3, .int l3_2), (2, .int l2_2), (0, .ref 10), (1, .ref 24)], [.int 0], (0, 0), ks i2 a2 q2 r2) (by rfl) ?_
            exact ft_ret mi_k21 (by rfl) (hP 0 _ _ _ _ hG10 trivial)
          ·
            have c11 : l2_2.toInt < (i2 643).toInt := kd_leF c; clear c
            first | refine ft_go mi_k21 3 32 [(3, .int l3_2), (2, .int l2_2), (0, .ref 10), (1, .ref 24)] [.int l2_2, .ref 11] i2 a2 q2 r2 (by rfl) ?_ | refine ko_steps mi_in21 3 _ (32, [(3, .int l3_2), (2, .int l2_2), (0, .ref 10), (1, .ref 24)], [.int l2_2, .ref 11], (0, 0), ks i2 a2 q2 r2) (by rfl) ?_
            refine ko_iald3 mi_k21.1 (n := 121) (c := 121) (ax := (0, 0, 0, 0, 0)) (mi_k21.2 _ _ (by rfl)) (by rfl) (ksG11 _ _ _ _) (hL2.I.2.1 11) rfl (oz389 c8 kn0) (oz1034 c11 fi2_643.2) ?_
            first | refine ft_go mi_k21 4 40 [(4, .int ((a2 11).getD l2_2.toNatClampNeg 0)), (3, .int l3_2), (2, .int l2_2), (0, .ref 10), (1, .ref 24)] [.int l2_2, .ref 12] i2 a2 q2 r2 (by rfl) ?_ | refine ko_steps mi_in21 4 _ (40, [(4, .int ((a2 11).getD l2_2.toNatClampNeg 0)), (3, .int l3_2), (2, .int l2_2), (0, .ref 10), (1, .ref 24)], [.int l2_2, .ref 12], (0, 0), ks i2 a2 q2 r2) (by rfl) ?_
            refine ko_iald3 mi_k21.1 (n := 121) (c := 121) (ax := (0, 0, 0, 0, 0)) (mi_k21.2 _ _ (by rfl)) (by rfl) (ksG12 _ _ _ _) (hL2.I.2.1 12) rfl (oz389 c8 kn0) (oz1034 c11 fi2_643.2) ?_
            have s12 : (l2_2 + 1).toInt = l2_2.toInt + (1 : Int32).toInt := kd_add (oz950 c8 kn0 kn1) (oz1035 c11 fi2_643.2 kn1)
            first | refine ft_go mi_k21 3 48 [(2, .int (l2_2 + 1)), (5, .int ((a2 12).getD l2_2.toNatClampNeg 0)), (4, .int ((a2 11).getD l2_2.toNatClampNeg 0)), (3, .int l3_2), (0, .ref 10), (1, .ref 24)] [.int ((a2 11).getD l2_2.toNatClampNeg 0)] i2 a2 q2 r2 (by rfl) ?_ | refine ko_steps mi_in21 3 _ (48, [(2, .int (l2_2 + 1)), (5, .int ((a2 12).getD l2_2.toNatClampNeg 0)), (4, .int ((a2 11).getD l2_2.toNatClampNeg 0)), (3, .int l3_2), (0, .ref 10), (1, .ref 24)], [.int ((a2 11).getD l2_2.toNatClampNeg 0)], (0, 0), ks i2 a2 q2 r2) (by rfl) ?_
            by_cases w13 : ((a2 11).getD l2_2.toNatClampNeg 0).toInt = 0
            ·
              refine ko_eq (x1 := (48, [(2, .int (l2_2 + 1)), (5, .int ((a2 12).getD l2_2.toNatClampNeg 0)), (4, .int ((a2 11).getD l2_2.toNatClampNeg 0)), (3, .int l3_2), (0, .ref 10), (1, .ref 24)], [.int 0], (0, 0), ks i2 a2 q2 r2)) (by rw [(kj_eq w13 (by decide) : ((a2 11).getD l2_2.toNatClampNeg 0) = 0)]) ?_
              first | refine ft_go mi_k21 3 111 [(2, .int (l2_2 + 1)), (5, .int ((a2 12).getD l2_2.toNatClampNeg 0)), (4, .int ((a2 11).getD l2_2.toNatClampNeg 0)), (3, .int l3_2), (0, .ref 10), (1, .ref 24)] [.int ((a2 12).getD l2_2.toNatClampNeg 0), .ref 10] i2 a2 q2 r2 (by rfl) ?_ | refine ko_steps mi_in21 3 _ (111, [(2, .int (l2_2 + 1)), (5, .int ((a2 12).getD l2_2.toNatClampNeg 0)), (4, .int ((a2 11).getD l2_2.toNatClampNeg 0)), (3, .int l3_2), (0, .ref 10), (1, .ref 24)], [.int ((a2 12).getD l2_2.toNatClampNeg 0), .ref 10], (0, 0), ks i2 a2 q2 r2) (by rfl) ?_
              refine ko_callN mi_k21.1 (pc := 111) (ls := [(2, .int (l2_2 + 1)), (5, .int ((a2 12).getD l2_2.toNatClampNeg 0)), (4, .int ((a2 11).getD l2_2.toNatClampNeg 0)), (3, .int l3_2), (0, .ref 10), (1, .ref 24)]) (st := [.int ((a2 12).getD l2_2.toNatClampNeg 0), .ref 10]) (h := ks i2 a2 q2 r2) (i := (.invokevirtual 32, 3, 19, 0, 9, 0, 225)) (mi_k21.2 _ _ (by rfl)) (ft_invS mi_pq19 (by rfl)) (cy := mi_c19) mi_pq19 rfl (kc19_10 hL2.I hL2.R ((a2 12).getD l2_2.toNatClampNeg 0)) (by decide) ?_
              intro ig14 ag14 qg14 rg14 kg14 hg14
              have hGg14 := kG_call hL2 kg14 (by decide +kernel)
              have s15 : (l3_2 + 1).toInt = l3_2.toInt + (1 : Int32).toInt := kd_add (oz12 p2_0 kn1) (oz1036 c5 kn121 kn1)
              first | refine ft_go mi_k21 3 9 [(3, .int (l3_2 + 1)), (2, .int (l2_2 + 1)), (5, .int ((a2 12).getD l2_2.toNatClampNeg 0)), (4, .int ((a2 11).getD l2_2.toNatClampNeg 0)), (0, .ref 10), (1, .ref 24)] [] ig14 ag14 qg14 rg14 (by rfl) ?_ | refine ko_steps mi_in21 3 _ (9, [(3, .int (l3_2 + 1)), (2, .int (l2_2 + 1)), (5, .int ((a2 12).getD l2_2.toNatClampNeg 0)), (4, .int ((a2 11).getD l2_2.toNatClampNeg 0)), (0, .ref 10), (1, .ref 24)], [], (0, 0), ks ig14 ag14 qg14 rg14) (by rfl) ?_
              refine ko_perm [(3, .int (l3_2 + 1)), (2, .int (l2_2 + 1)), (0, .ref 10), (1, .ref 24)] (List.forall_mem_cons.mpr ⟨(List.Mem.head _), (List.forall_mem_cons.mpr ⟨(List.Mem.tail _ (List.Mem.head _)), (List.forall_mem_cons.mpr ⟨(List.Mem.tail _ (List.Mem.tail _ (List.Mem.tail _ (List.Mem.tail _ (List.Mem.head _))))), (List.forall_mem_cons.mpr ⟨(List.Mem.tail _ (List.Mem.tail _ (List.Mem.tail _ (List.Mem.tail _ (List.Mem.tail _ (List.Mem.head _)))))), (fun _ h => absurd h List.not_mem_nil)⟩)⟩)⟩)⟩) ?_
              exact ih2 _ _ _ _ _ _ hGg14 (oz14 p2_0 s15 kn1) (kj_meas (oz1037 s15 kn1) (oz1038 c5 kn121) hm2)
            by_cases w16 : ((a2 11).getD l2_2.toNatClampNeg 0).toInt = 1
            ·
              refine ko_eq (x1 := (48, [(2, .int (l2_2 + 1)), (5, .int ((a2 12).getD l2_2.toNatClampNeg 0)), (4, .int ((a2 11).getD l2_2.toNatClampNeg 0)), (3, .int l3_2), (0, .ref 10), (1, .ref 24)], [.int 1], (0, 0), ks i2 a2 q2 r2)) (by rw [(kj_eq w16 (by decide) : ((a2 11).getD l2_2.toNatClampNeg 0) = 1)]) ?_
              first | refine ft_go mi_k21 3 120 [(2, .int (l2_2 + 1)), (5, .int ((a2 12).getD l2_2.toNatClampNeg 0)), (4, .int ((a2 11).getD l2_2.toNatClampNeg 0)), (3, .int l3_2), (0, .ref 10), (1, .ref 24)] [.int ((a2 12).getD l2_2.toNatClampNeg 0), .ref 10] i2 a2 q2 r2 (by rfl) ?_ | refine ko_steps mi_in21 3 _ (120, [(2, .int (l2_2 + 1)), (5, .int ((a2 12).getD l2_2.toNatClampNeg 0)), (4, .int ((a2 11).getD l2_2.toNatClampNeg 0)), (3, .int l3_2), (0, .ref 10), (1, .ref 24)], [.int ((a2 12).getD l2_2.toNatClampNeg 0), .ref 10], (0, 0), ks i2 a2 q2 r2) (by rfl) ?_
              refine ft_if mi_k21 (decide (((a2 12).getD l2_2.toNatClampNeg 0) < 0)) 137 123 [(2, .int (l2_2 + 1)), (5, .int ((a2 12).getD l2_2.toNatClampNeg 0)), (4, .int ((a2 11).getD l2_2.toNatClampNeg 0)), (3, .int l3_2), (0, .ref 10), (1, .ref 24)] [.ref 10] (by rfl) (fun c => ?_) (fun c => ?_)
              ·
                have c17 : ((a2 12).getD l2_2.toNatClampNeg 0).toInt < (0 : Int32).toInt := kd_lt c; clear c
                first | refine ft_go mi_k21 1 138 [(2, .int (l2_2 + 1)), (5, .int ((a2 12).getD l2_2.toNatClampNeg 0)), (4, .int ((a2 11).getD l2_2.toNatClampNeg 0)), (3, .int l3_2), (0, .ref 10), (1, .ref 24)] [.int 0, .ref 10] i2 a2 q2 r2 (by rfl) ?_ | refine ko_steps mi_in21 1 _ (138, [(2, .int (l2_2 + 1)), (5, .int ((a2 12).getD l2_2.toNatClampNeg 0)), (4, .int ((a2 11).getD l2_2.toNatClampNeg 0)), (3, .int l3_2), (0, .ref 10), (1, .ref 24)], [.int 0, .ref 10], (0, 0), ks i2 a2 q2 r2) (by rfl) ?_
                refine ko_callN mi_k21.1 (pc := 138) (ls := [(2, .int (l2_2 + 1)), (5, .int ((a2 12).getD l2_2.toNatClampNeg 0)), (4, .int ((a2 11).getD l2_2.toNatClampNeg 0)), (3, .int l3_2), (0, .ref 10), (1, .ref 24)]) (st := [.int 0, .ref 10]) (h := ks i2 a2 q2 r2) (i := (.invokevirtual 32, 3, 19, 0, 9, 0, 225)) (mi_k21.2 _ _ (by rfl)) (ft_invS mi_pq19 (by rfl)) (cy := mi_c19) mi_pq19 rfl (kc19_10 hL2.I hL2.R 0) (by decide) ?_
                intro ig18 ag18 qg18 rg18 kg18 hg18
                have hGg18 := kG_call hL2 kg18 (by decide +kernel)
                have s19 : (l3_2 + 1).toInt = l3_2.toInt + (1 : Int32).toInt := kd_add (oz12 p2_0 kn1) (oz1036 c5 kn121 kn1)
                first | refine ft_go mi_k21 3 9 [(3, .int (l3_2 + 1)), (2, .int (l2_2 + 1)), (5, .int ((a2 12).getD l2_2.toNatClampNeg 0)), (4, .int ((a2 11).getD l2_2.toNatClampNeg 0)), (0, .ref 10), (1, .ref 24)] [] ig18 ag18 qg18 rg18 (by rfl) ?_ | refine ko_steps mi_in21 3 _ (9, [(3, .int (l3_2 + 1)), (2, .int (l2_2 + 1)), (5, .int ((a2 12).getD l2_2.toNatClampNeg 0)), (4, .int ((a2 11).getD l2_2.toNatClampNeg 0)), (0, .ref 10), (1, .ref 24)], [], (0, 0), ks ig18 ag18 qg18 rg18) (by rfl) ?_
                refine ko_perm [(3, .int (l3_2 + 1)), (2, .int (l2_2 + 1)), (0, .ref 10), (1, .ref 24)] (List.forall_mem_cons.mpr ⟨(List.Mem.head _), (List.forall_mem_cons.mpr ⟨(List.Mem.tail _ (List.Mem.head _)), (List.forall_mem_cons.mpr ⟨(List.Mem.tail _ (List.Mem.tail _ (List.Mem.tail _ (List.Mem.tail _ (List.Mem.head _))))), (List.forall_mem_cons.mpr ⟨(List.Mem.tail _ (List.Mem.tail _ (List.Mem.tail _ (List.Mem.tail _ (List.Mem.tail _ (List.Mem.head _)))))), (fun _ h => absurd h List.not_mem_nil)⟩)⟩)⟩)⟩) ?_
                exact ih2 _ _ _ _ _ _ hGg18 (oz14 p2_0 s19 kn1) (kj_meas (oz1037 s19 kn1) (oz1038 c5 kn121) hm2)
              ·
                have c20 : (0 : Int32).toInt ≤ ((a2 12).getD l2_2.toNatClampNeg 0).toInt := kd_ltF c; clear c
                first | refine ft_go mi_k21 2 126 [(2, .int (l2_2 + 1)), (5, .int ((a2 12).getD l2_2.toNatClampNeg 0)), (4, .int ((a2 11).getD l2_2.toNatClampNeg 0)), (3, .int l3_2), (0, .ref 10), (1, .ref 24)] [.ref 24, .int ((a2 12).getD l2_2.toNatClampNeg 0), .ref 10] i2 a2 q2 r2 (by rfl) ?_ | refine ko_steps mi_in21 2 _ (126, [(2, .int (l2_2 + 1)), (5, .int ((a2 12).getD l2_2.toNatClampNeg 0)), (4, .int ((a2 11).getD l2_2.toNatClampNeg 0)), (3, .int l3_2), (0, .ref 10), (1, .ref 24)], [.ref 24, .int ((a2 12).getD l2_2.toNatClampNeg 0), .ref 10], (0, 0), ks i2 a2 q2 r2) (by rfl) ?_
                refine ko_alen mi_k21.1 (l := a2 24) (ax := (0, 0, 0, 0, 0)) (x := 6) (mi_k21.2 _ _ (by rfl)) (by rfl) (by rfl) (by rw [(hL2.I.2.1 24 : (a2 24).length = _)]; rfl) ?_
                refine ft_if mi_k21 (decide (6 ≤ ((a2 12).getD l2_2.toNatClampNeg 0))) 137 130 [(2, .int (l2_2 + 1)), (5, .int ((a2 12).getD l2_2.toNatClampNeg 0)), (4, .int ((a2 11).getD l2_2.toNatClampNeg 0)), (3, .int l3_2), (0, .ref 10), (1, .ref 24)] [.ref 10] (by rfl) (fun c => ?_) (fun c => ?_)
                ·
                  have c21 : (6 : Int32).toInt ≤ ((a2 12).getD l2_2.toNatClampNeg 0).toInt := kd_le c; clear c
                  first | refine ft_go mi_k21 1 138 [(2, .int (l2_2 + 1)), (5, .int ((a2 12).getD l2_2.toNatClampNeg 0)), (4, .int ((a2 11).getD l2_2.toNatClampNeg 0)), (3, .int l3_2), (0, .ref 10), (1, .ref 24)] [.int 0, .ref 10] i2 a2 q2 r2 (by rfl) ?_ | refine ko_steps mi_in21 1 _ (138, [(2, .int (l2_2 + 1)), (5, .int ((a2 12).getD l2_2.toNatClampNeg 0)), (4, .int ((a2 11).getD l2_2.toNatClampNeg 0)), (3, .int l3_2), (0, .ref 10), (1, .ref 24)], [.int 0, .ref 10], (0, 0), ks i2 a2 q2 r2) (by rfl) ?_
                  refine ko_callN mi_k21.1 (pc := 138) (ls := [(2, .int (l2_2 + 1)), (5, .int ((a2 12).getD l2_2.toNatClampNeg 0)), (4, .int ((a2 11).getD l2_2.toNatClampNeg 0)), (3, .int l3_2), (0, .ref 10), (1, .ref 24)]) (st := [.int 0, .ref 10]) (h := ks i2 a2 q2 r2) (i := (.invokevirtual 32, 3, 19, 0, 9, 0, 225)) (mi_k21.2 _ _ (by rfl)) (ft_invS mi_pq19 (by rfl)) (cy := mi_c19) mi_pq19 rfl (kc19_10 hL2.I hL2.R 0) (by decide) ?_
                  intro ig22 ag22 qg22 rg22 kg22 hg22
                  have hGg22 := kG_call hL2 kg22 (by decide +kernel)
                  have s23 : (l3_2 + 1).toInt = l3_2.toInt + (1 : Int32).toInt := kd_add (oz12 p2_0 kn1) (oz1036 c5 kn121 kn1)
                  first | refine ft_go mi_k21 3 9 [(3, .int (l3_2 + 1)), (2, .int (l2_2 + 1)), (5, .int ((a2 12).getD l2_2.toNatClampNeg 0)), (4, .int ((a2 11).getD l2_2.toNatClampNeg 0)), (0, .ref 10), (1, .ref 24)] [] ig22 ag22 qg22 rg22 (by rfl) ?_ | refine ko_steps mi_in21 3 _ (9, [(3, .int (l3_2 + 1)), (2, .int (l2_2 + 1)), (5, .int ((a2 12).getD l2_2.toNatClampNeg 0)), (4, .int ((a2 11).getD l2_2.toNatClampNeg 0)), (0, .ref 10), (1, .ref 24)], [], (0, 0), ks ig22 ag22 qg22 rg22) (by rfl) ?_
                  refine ko_perm [(3, .int (l3_2 + 1)), (2, .int (l2_2 + 1)), (0, .ref 10), (1, .ref 24)] (List.forall_mem_cons.mpr ⟨(List.Mem.head _), (List.forall_mem_cons.mpr ⟨(List.Mem.tail _ (List.Mem.head _)), (List.forall_mem_cons.mpr ⟨(List.Mem.tail _ (List.Mem.tail _ (List.Mem.tail _ (List.Mem.tail _ (List.Mem.head _))))), (List.forall_mem_cons.mpr ⟨(List.Mem.tail _ (List.Mem.tail _ (List.Mem.tail _ (List.Mem.tail _ (List.Mem.tail _ (List.Mem.head _)))))), (fun _ h => absurd h List.not_mem_nil)⟩)⟩)⟩)⟩) ?_
                  exact ih2 _ _ _ _ _ _ hGg22 (oz14 p2_0 s23 kn1) (kj_meas (oz1037 s23 kn1) (oz1038 c5 kn121) hm2)
                ·
                  have c24 : ((a2 12).getD l2_2.toNatClampNeg 0).toInt < (6 : Int32).toInt := kd_leF c; clear c
                  first | refine ft_go mi_k21 2 133 [(2, .int (l2_2 + 1)), (5, .int ((a2 12).getD l2_2.toNatClampNeg 0)), (4, .int ((a2 11).getD l2_2.toNatClampNeg 0)), (3, .int l3_2), (0, .ref 10), (1, .ref 24)] [.int ((a2 12).getD l2_2.toNatClampNeg 0), .ref 24, .ref 10] i2 a2 q2 r2 (by rfl) ?_ | refine ko_steps mi_in21 2 _ (133, [(2, .int (l2_2 + 1)), (5, .int ((a2 12).getD l2_2.toNatClampNeg 0)), (4, .int ((a2 11).getD l2_2.toNatClampNeg 0)), (3, .int l3_2), (0, .ref 10), (1, .ref 24)], [.int ((a2 12).getD l2_2.toNatClampNeg 0), .ref 24, .ref 10], (0, 0), ks i2 a2 q2 r2) (by rfl) ?_
                  refine ko_iald3 mi_k21.1 (n := 6) (c := 6) (ax := (0, 0, 0, 0, 0)) (mi_k21.2 _ _ (by rfl)) (by rfl) (ksG24 _ _ _ _) (hL2.I.2.1 24) rfl (oz389 c20 kn0) (oz1039 c24 kn6) ?_
                  first | refine ft_go mi_k21 1 138 [(2, .int (l2_2 + 1)), (5, .int ((a2 12).getD l2_2.toNatClampNeg 0)), (4, .int ((a2 11).getD l2_2.toNatClampNeg 0)), (3, .int l3_2), (0, .ref 10), (1, .ref 24)] [.int ((a2 24).getD ((a2 12).getD l2_2.toNatClampNeg 0).toNatClampNeg 0), .ref 10] i2 a2 q2 r2 (by rfl) ?_ | refine ko_steps mi_in21 1 _ (138, [(2, .int (l2_2 + 1)), (5, .int ((a2 12).getD l2_2.toNatClampNeg 0)), (4, .int ((a2 11).getD l2_2.toNatClampNeg 0)), (3, .int l3_2), (0, .ref 10), (1, .ref 24)], [.int ((a2 24).getD ((a2 12).getD l2_2.toNatClampNeg 0).toNatClampNeg 0), .ref 10], (0, 0), ks i2 a2 q2 r2) (by rfl) ?_
                  refine ko_callN mi_k21.1 (pc := 138) (ls := [(2, .int (l2_2 + 1)), (5, .int ((a2 12).getD l2_2.toNatClampNeg 0)), (4, .int ((a2 11).getD l2_2.toNatClampNeg 0)), (3, .int l3_2), (0, .ref 10), (1, .ref 24)]) (st := [.int ((a2 24).getD ((a2 12).getD l2_2.toNatClampNeg 0).toNatClampNeg 0), .ref 10]) (h := ks i2 a2 q2 r2) (i := (.invokevirtual 32, 3, 19, 0, 9, 0, 225)) (mi_k21.2 _ _ (by rfl)) (ft_invS mi_pq19 (by rfl)) (cy := mi_c19) mi_pq19 rfl (kc19_10 hL2.I hL2.R ((a2 24).getD ((a2 12).getD l2_2.toNatClampNeg 0).toNatClampNeg 0)) (by decide) ?_
                  intro ig25 ag25 qg25 rg25 kg25 hg25
                  have hGg25 := kG_call hL2 kg25 (by decide +kernel)
                  have s26 : (l3_2 + 1).toInt = l3_2.toInt + (1 : Int32).toInt := kd_add (oz12 p2_0 kn1) (oz1036 c5 kn121 kn1)
                  first | refine ft_go mi_k21 3 9 [(3, .int (l3_2 + 1)), (2, .int (l2_2 + 1)), (5, .int ((a2 12).getD l2_2.toNatClampNeg 0)), (4, .int ((a2 11).getD l2_2.toNatClampNeg 0)), (0, .ref 10), (1, .ref 24)] [] ig25 ag25 qg25 rg25 (by rfl) ?_ | refine ko_steps mi_in21 3 _ (9, [(3, .int (l3_2 + 1)), (2, .int (l2_2 + 1)), (5, .int ((a2 12).getD l2_2.toNatClampNeg 0)), (4, .int ((a2 11).getD l2_2.toNatClampNeg 0)), (0, .ref 10), (1, .ref 24)], [], (0, 0), ks ig25 ag25 qg25 rg25) (by rfl) ?_
                  refine ko_perm [(3, .int (l3_2 + 1)), (2, .int (l2_2 + 1)), (0, .ref 10), (1, .ref 24)] (List.forall_mem_cons.mpr ⟨(List.Mem.head _), (List.forall_mem_cons.mpr ⟨(List.Mem.tail _ (List.Mem.head _)), (List.forall_mem_cons.mpr ⟨(List.Mem.tail _ (List.Mem.tail _ (List.Mem.tail _ (List.Mem.tail _ (List.Mem.head _))))), (List.forall_mem_cons.mpr ⟨(List.Mem.tail _ (List.Mem.tail _ (List.Mem.tail _ (List.Mem.tail _ (List.Mem.tail _ (List.Mem.head _)))))), (fun _ h => absurd h List.not_mem_nil)⟩)⟩)⟩)⟩) ?_
                  exact ih2 _ _ _ _ _ _ hGg25 (oz14 p2_0 s26 kn1) (kj_meas (oz1037 s26 kn1) (oz1038 c5 kn121) hm2)
            by_cases w27 : ((a2 11).getD l2_2.toNatClampNeg 0).toInt = 2
            ·
              refine ko_eq (x1 := (48, [(2, .int (l2_2 + 1)), (5, .int ((a2 12).getD l2_2.toNatClampNeg 0)), (4, .int ((a2 11).getD l2_2.toNatClampNeg 0)), (3, .int l3_2), (0, .ref 10), (1, .ref 24)], [.int 2], (0, 0), ks i2 a2 q2 r2)) (by rw [(kj_eq w27 (by decide) : ((a2 11).getD l2_2.toNatClampNeg 0) = 2)]) ?_
              first | refine ft_go mi_k21 1 144 [(2, .int (l2_2 + 1)), (5, .int ((a2 12).getD l2_2.toNatClampNeg 0)), (4, .int ((a2 11).getD l2_2.toNatClampNeg 0)), (3, .int l3_2), (0, .ref 10), (1, .ref 24)] [] i2 a2 q2 r2 (by rfl) ?_ | refine ko_steps mi_in21 1 _ (144, [(2, .int (l2_2 + 1)), (5, .int ((a2 12).getD l2_2.toNatClampNeg 0)), (4, .int ((a2 11).getD l2_2.toNatClampNeg 0)), (3, .int l3_2), (0, .ref 10), (1, .ref 24)], [], (0, 0), ks i2 a2 q2 r2) (by rfl) ?_
              have hG28 := kG_call hJ1 hL2 (by decide +kernel)
              first | refine ft_go mi_k21 1 145 [(2, .int (l2_2 + 1)), (5, .int ((a2 12).getD l2_2.toNatClampNeg 0)), (4, .int ((a2 11).getD l2_2.toNatClampNeg 0)), (3, .int l3_2), (0, .ref 10), (1, .ref 24)] [.ref 10] i2 a2 q2 r2 (by rfl) ?_ | refine ko_steps mi_in21 1 _ (145, [(2, .int (l2_2 + 1)), (5, .int ((a2 12).getD l2_2.toNatClampNeg 0)), (4, .int ((a2 11).getD l2_2.toNatClampNeg 0)), (3, .int l3_2), (0, .ref 10), (1, .ref 24)], [.ref 10], (0, 0), ks i2 a2 q2 r2) (by rfl) ?_
              refine ko_callI mi_k21.1 (pc := 145) (ls := [(2, .int (l2_2 + 1)), (5, .int ((a2 12).getD l2_2.toNatClampNeg 0)), (4, .int ((a2 11).getD l2_2.toNatClampNeg 0)), (3, .int l3_2), (0, .ref 10), (1, .ref 24)]) (st := [.ref 10]) (h := ks i2 a2 q2 r2) (i := (.invokevirtual 36, 3, 20, 0, 9, 0, 226)) (mi_k21.2 _ _ (by rfl)) (ft_invS mi_pq20 (by rfl)) (cy := mi_c20) mi_pq20 rfl (kc20_10 hG28.I hG28.R ) (by decide) ?_
              intro vg29 ig29 ag29 qg29 rg29 kg29 hg29
              have hGg29 := kG_call hG28 kg29 (by decide +kernel)
              exact ft_ret mi_k21 (by rfl) (hP vg29 _ _ _ _ hGg29 trivial)
            by_cases w30 : ((a2 11).getD l2_2.toNatClampNeg 0).toInt = 3
            ·
              refine ko_eq (x1 := (48, [(2, .int (l2_2 + 1)), (5, .int ((a2 12).getD l2_2.toNatClampNeg 0)), (4, .int ((a2 11).getD l2_2.toNatClampNeg 0)), (3, .int l3_2), (0, .ref 10), (1, .ref 24)], [.int 3], (0, 0), ks i2 a2 q2 r2)) (by rw [(kj_eq w30 (by decide) : ((a2 11).getD l2_2.toNatClampNeg 0) = 3)]) ?_
              first | refine ft_go mi_k21 2 150 [(2, .int (l2_2 + 1)), (5, .int ((a2 12).getD l2_2.toNatClampNeg 0)), (4, .int ((a2 11).getD l2_2.toNatClampNeg 0)), (3, .int l3_2), (0, .ref 10), (1, .ref 24)] [.ref 10] i2 a2 q2 r2 (by rfl) ?_ | refine ko_steps mi_in21 2 _ (150, [(2, .int (l2_2 + 1)), (5, .int ((a2 12).getD l2_2.toNatClampNeg 0)), (4, .int ((a2 11).getD l2_2.toNatClampNeg 0)), (3, .int l3_2), (0, .ref 10), (1, .ref 24)], [.ref 10], (0, 0), ks i2 a2 q2 r2) (by rfl) ?_
              refine ko_callI mi_k21.1 (pc := 150) (ls := [(2, .int (l2_2 + 1)), (5, .int ((a2 12).getD l2_2.toNatClampNeg 0)), (4, .int ((a2 11).getD l2_2.toNatClampNeg 0)), (3, .int l3_2), (0, .ref 10), (1, .ref 24)]) (st := [.ref 10]) (h := ks i2 a2 q2 r2) (i := (.invokevirtual 36, 3, 20, 0, 9, 0, 226)) (mi_k21.2 _ _ (by rfl)) (ft_invS mi_pq20 (by rfl)) (cy := mi_c20) mi_pq20 rfl (kc20_10 hL2.I hL2.R ) (by decide) ?_
              intro vg31 ig31 ag31 qg31 rg31 kg31 hg31
              have hGg31 := kG_call hL2 kg31 (by decide +kernel)
              refine ft_if mi_k21 (vg31 != 0) 214 156 [(2, .int (l2_2 + 1)), (5, .int ((a2 12).getD l2_2.toNatClampNeg 0)), (4, .int ((a2 11).getD l2_2.toNatClampNeg 0)), (3, .int l3_2), (0, .ref 10), (1, .ref 24)] [] (by rfl) (fun c => ?_) (fun c => ?_)
              ·
                have c32 : vg31.toInt ≠ (0 : Int32).toInt := kd_ne c; clear c
                have s33 : (l3_2 + 1).toInt = l3_2.toInt + (1 : Int32).toInt := kd_add (oz12 p2_0 kn1) (oz1036 c5 kn121 kn1)
                first | refine ft_go mi_k21 2 9 [(3, .int (l3_2 + 1)), (2, .int (l2_2 + 1)), (5, .int ((a2 12).getD l2_2.toNatClampNeg 0)), (4, .int ((a2 11).getD l2_2.toNatClampNeg 0)), (0, .ref 10), (1, .ref 24)] [] ig31 ag31 qg31 rg31 (by rfl) ?_ | refine ko_steps mi_in21 2 _ (9, [(3, .int (l3_2 + 1)), (2, .int (l2_2 + 1)), (5, .int ((a2 12).getD l2_2.toNatClampNeg 0)), (4, .int ((a2 11).getD l2_2.toNatClampNeg 0)), (0, .ref 10), (1, .ref 24)], [], (0, 0), ks ig31 ag31 qg31 rg31) (by rfl) ?_
                refine ko_perm [(3, .int (l3_2 + 1)), (2, .int (l2_2 + 1)), (0, .ref 10), (1, .ref 24)] (List.forall_mem_cons.mpr ⟨(List.Mem.head _), (List.forall_mem_cons.mpr ⟨(List.Mem.tail _ (List.Mem.head _)), (List.forall_mem_cons.mpr ⟨(List.Mem.tail _ (List.Mem.tail _ (List.Mem.tail _ (List.Mem.tail _ (List.Mem.head _))))), (List.forall_mem_cons.mpr ⟨(List.Mem.tail _ (List.Mem.tail _ (List.Mem.tail _ (List.Mem.tail _ (List.Mem.tail _ (List.Mem.head _)))))), (fun _ h => absurd h List.not_mem_nil)⟩)⟩)⟩)⟩) ?_
                exact ih2 _ _ _ _ _ _ hGg31 (oz14 p2_0 s33 kn1) (kj_meas (oz1037 s33 kn1) (oz1038 c5 kn121) hm2)
              ·
                have c34 : vg31.toInt = (0 : Int32).toInt := kd_neF c; clear c
                have s35 : (l3_2 + 1).toInt = l3_2.toInt + (1 : Int32).toInt := kd_add (oz12 p2_0 kn1) (oz1036 c5 kn121 kn1)
                first | refine ft_go mi_k21 5 9 [(3, .int (l3_2 + 1)), (2, .int ((a2 12).getD l2_2.toNatClampNeg 0)), (5, .int ((a2 12).getD l2_2.toNatClampNeg 0)), (4, .int ((a2 11).getD l2_2.toNatClampNeg 0)), (0, .ref 10), (1, .ref 24)] [] ig31 ag31 qg31 rg31 (by rfl) ?_ | refine ko_steps mi_in21 5 _ (9, [(3, .int (l3_2 + 1)), (2, .int ((a2 12).getD l2_2.toNatClampNeg 0)), (5, .int ((a2 12).getD l2_2.toNatClampNeg 0)), (4, .int ((a2 11).getD l2_2.toNatClampNeg 0)), (0, .ref 10), (1, .ref 24)], [], (0, 0), ks ig31 ag31 qg31 rg31) (by rfl) ?_
                refine ko_perm [(3, .int (l3_2 + 1)), (2, .int ((a2 12).getD l2_2.toNatClampNeg 0)), (0, .ref 10), (1, .ref 24)] (List.forall_mem_cons.mpr ⟨(List.Mem.head _), (List.forall_mem_cons.mpr ⟨(List.Mem.tail _ (List.Mem.head _)), (List.forall_mem_cons.mpr ⟨(List.Mem.tail _ (List.Mem.tail _ (List.Mem.tail _ (List.Mem.tail _ (List.Mem.head _))))), (List.forall_mem_cons.mpr ⟨(List.Mem.tail _ (List.Mem.tail _ (List.Mem.tail _ (List.Mem.tail _ (List.Mem.tail _ (List.Mem.head _)))))), (fun _ h => absurd h List.not_mem_nil)⟩)⟩)⟩)⟩) ?_
                exact ih2 _ _ _ _ _ _ hGg31 (oz14 p2_0 s35 kn1) (kj_meas (oz1037 s35 kn1) (oz1038 c5 kn121) hm2)
            by_cases w36 : ((a2 11).getD l2_2.toNatClampNeg 0).toInt = 33
            ·
              refine ko_eq (x1 := (48, [(2, .int (l2_2 + 1)), (5, .int ((a2 12).getD l2_2.toNatClampNeg 0)), (4, .int ((a2 11).getD l2_2.toNatClampNeg 0)), (3, .int l3_2), (0, .ref 10), (1, .ref 24)], [.int 33], (0, 0), ks i2 a2 q2 r2)) (by rw [(kj_eq w36 (by decide) : ((a2 11).getD l2_2.toNatClampNeg 0) = 33)]) ?_
              first | refine ft_go mi_k21 3 164 [(2, .int (l2_2 + 1)), (5, .int ((a2 12).getD l2_2.toNatClampNeg 0)), (4, .int ((a2 11).getD l2_2.toNatClampNeg 0)), (3, .int l3_2), (0, .ref 10), (1, .ref 24)] [.ref 10, .ref 10] i2 a2 q2 r2 (by rfl) ?_ | refine ko_steps mi_in21 3 _ (164, [(2, .int (l2_2 + 1)), (5, .int ((a2 12).getD l2_2.toNatClampNeg 0)), (4, .int ((a2 11).getD l2_2.toNatClampNeg 0)), (3, .int l3_2), (0, .ref 10), (1, .ref 24)], [.ref 10, .ref 10], (0, 0), ks i2 a2 q2 r2) (by rfl) ?_
              refine ko_callI mi_k21.1 (pc := 164) (ls := [(2, .int (l2_2 + 1)), (5, .int ((a2 12).getD l2_2.toNatClampNeg 0)), (4, .int ((a2 11).getD l2_2.toNatClampNeg 0)), (3, .int l3_2), (0, .ref 10), (1, .ref 24)]) (st := [.ref 10, .ref 10]) (h := ks i2 a2 q2 r2) (i := (.invokevirtual 36, 3, 20, 0, 9, 0, 226)) (mi_k21.2 _ _ (by rfl)) (ft_invS mi_pq20 (by rfl)) (cy := mi_c20) mi_pq20 rfl (kc20_10 hL2.I hL2.R ) (by decide) ?_
              intro vg37 ig37 ag37 qg37 rg37 kg37 hg37
              have hGg37 := kG_call hL2 kg37 (by decide +kernel)
              refine ft_if mi_k21 (vg37 != 0) 174 170 [(2, .int (l2_2 + 1)), (5, .int ((a2 12).getD l2_2.toNatClampNeg 0)), (4, .int ((a2 11).getD l2_2.toNatClampNeg 0)), (3, .int l3_2), (0, .ref 10), (1, .ref 24)] [.ref 10] (by rfl) (fun c => ?_) (fun c => ?_)
              ·
                have c38 : vg37.toInt ≠ (0 : Int32).toInt := kd_ne c; clear c
                first | refine ft_go mi_k21 1 175 [(2, .int (l2_2 + 1)), (5, .int ((a2 12).getD l2_2.toNatClampNeg 0)), (4, .int ((a2 11).getD l2_2.toNatClampNeg 0)), (3, .int l3_2), (0, .ref 10), (1, .ref 24)] [.int 0, .ref 10] ig37 ag37 qg37 rg37 (by rfl) ?_ | refine ko_steps mi_in21 1 _ (175, [(2, .int (l2_2 + 1)), (5, .int ((a2 12).getD l2_2.toNatClampNeg 0)), (4, .int ((a2 11).getD l2_2.toNatClampNeg 0)), (3, .int l3_2), (0, .ref 10), (1, .ref 24)], [.int 0, .ref 10], (0, 0), ks ig37 ag37 qg37 rg37) (by rfl) ?_
                refine ko_callN mi_k21.1 (pc := 175) (ls := [(2, .int (l2_2 + 1)), (5, .int ((a2 12).getD l2_2.toNatClampNeg 0)), (4, .int ((a2 11).getD l2_2.toNatClampNeg 0)), (3, .int l3_2), (0, .ref 10), (1, .ref 24)]) (st := [.int 0, .ref 10]) (h := ks ig37 ag37 qg37 rg37) (i := (.invokevirtual 32, 3, 19, 0, 9, 0, 225)) (mi_k21.2 _ _ (by rfl)) (ft_invS mi_pq19 (by rfl)) (cy := mi_c19) mi_pq19 rfl (kc19_10 hGg37.I hGg37.R 0) (by decide) ?_
                intro ig39 ag39 qg39 rg39 kg39 hg39
                have hGg39 := kG_call hGg37 kg39 (by decide +kernel)
                have s40 : (l3_2 + 1).toInt = l3_2.toInt + (1 : Int32).toInt := kd_add (oz12 p2_0 kn1) (oz1036 c5 kn121 kn1)
                first | refine ft_go mi_k21 3 9 [(3, .int (l3_2 + 1)), (2, .int (l2_2 + 1)), (5, .int ((a2 12).getD l2_2.toNatClampNeg 0)), (4, .int ((a2 11).getD l2_2.toNatClampNeg 0)), (0, .ref 10), (1, .ref 24)] [] ig39 ag39 qg39 rg39 (by rfl) ?_ | refine ko_steps mi_in21 3 _ (9, [(3, .int (l3_2 + 1)), (2, .int (l2_2 + 1)), (5, .int ((a2 12).getD l2_2.toNatClampNeg 0)), (4, .int ((a2 11).getD l2_2.toNatClampNeg 0)), (0, .ref 10), (1, .ref 24)], [], (0, 0), ks ig39 ag39 qg39 rg39) (by rfl) ?_
                refine ko_perm [(3, .int (l3_2 + 1)), (2, .int (l2_2 + 1)), (0, .ref 10), (1, .ref 24)] (List.forall_mem_cons.mpr ⟨(List.Mem.head _), (List.forall_mem_cons.mpr ⟨(List.Mem.tail _ (List.Mem.head _)), (List.forall_mem_cons.mpr ⟨(List.Mem.tail _ (List.Mem.tail _ (List.Mem.tail _ (List.Mem.tail _ (List.Mem.head _))))), (List.forall_mem_cons.mpr ⟨(List.Mem.tail _ (List.Mem.tail _ (List.Mem.tail _ (List.Mem.tail _ (List.Mem.tail _ (List.Mem.head _)))))), (fun _ h => absurd h List.not_mem_nil)⟩)⟩)⟩)⟩) ?_
                exact ih2 _ _ _ _ _ _ hGg39 (oz14 p2_0 s40 kn1) (kj_meas (oz1037 s40 kn1) (oz1038 c5 kn121) hm2)
              ·
                have c41 : vg37.toInt = (0 : Int32).toInt := kd_neF c; clear c
                first | refine ft_go mi_k21 2 175 [(2, .int (l2_2 + 1)), (5, .int ((a2 12).getD l2_2.toNatClampNeg 0)), (4, .int ((a2 11).getD l2_2.toNatClampNeg 0)), (3, .int l3_2), (0, .ref 10), (1, .ref 24)] [.int 1, .ref 10] ig37 ag37 qg37 rg37 (by rfl) ?_ | refine ko_steps mi_in21 2 _ (175, [(2, .int (l2_2 + 1)), (5, .int ((a2 12).getD l2_2.toNatClampNeg 0)), (4, .int ((a2 11).getD l2_2.toNatClampNeg 0)), (3, .int l3_2), (0, .ref 10), (1, .ref 24)], [.int 1, .ref 10], (0, 0), ks ig37 ag37 qg37 rg37) (by rfl) ?_
                refine ko_callN mi_k21.1 (pc := 175) (ls := [(2, .int (l2_2 + 1)), (5, .int ((a2 12).getD l2_2.toNatClampNeg 0)), (4, .int ((a2 11).getD l2_2.toNatClampNeg 0)), (3, .int l3_2), (0, .ref 10), (1, .ref 24)]) (st := [.int 1, .ref 10]) (h := ks ig37 ag37 qg37 rg37) (i := (.invokevirtual 32, 3, 19, 0, 9, 0, 225)) (mi_k21.2 _ _ (by rfl)) (ft_invS mi_pq19 (by rfl)) (cy := mi_c19) mi_pq19 rfl (kc19_10 hGg37.I hGg37.R 1) (by decide) ?_
                intro ig42 ag42 qg42 rg42 kg42 hg42
                have hGg42 := kG_call hGg37 kg42 (by decide +kernel)
                have s43 : (l3_2 + 1).toInt = l3_2.toInt + (1 : Int32).toInt := kd_add (oz12 p2_0 kn1) (oz1036 c5 kn121 kn1)
                first | refine ft_go mi_k21 3 9 [(3, .int (l3_2 + 1)), (2, .int (l2_2 + 1)), (5, .int ((a2 12).getD l2_2.toNatClampNeg 0)), (4, .int ((a2 11).getD l2_2.toNatClampNeg 0)), (0, .ref 10), (1, .ref 24)] [] ig42 ag42 qg42 rg42 (by rfl) ?_ | refine ko_steps mi_in21 3 _ (9, [(3, .int (l3_2 + 1)), (2, .int (l2_2 + 1)), (5, .int ((a2 12).getD l2_2.toNatClampNeg 0)), (4, .int ((a2 11).getD l2_2.toNatClampNeg 0)), (0, .ref 10), (1, .ref 24)], [], (0, 0), ks ig42 ag42 qg42 rg42) (by rfl) ?_
                refine ko_perm [(3, .int (l3_2 + 1)), (2, .int (l2_2 + 1)), (0, .ref 10), (1, .ref 24)] (List.forall_mem_cons.mpr ⟨(List.Mem.head _), (List.forall_mem_cons.mpr ⟨(List.Mem.tail _ (List.Mem.head _)), (List.forall_mem_cons.mpr ⟨(List.Mem.tail _ (List.Mem.tail _ (List.Mem.tail _ (List.Mem.tail _ (List.Mem.head _))))), (List.forall_mem_cons.mpr ⟨(List.Mem.tail _ (List.Mem.tail _ (List.Mem.tail _ (List.Mem.tail _ (List.Mem.tail _ (List.Mem.head _)))))), (fun _ h => absurd h List.not_mem_nil)⟩)⟩)⟩)⟩) ?_
                exact ih2 _ _ _ _ _ _ hGg42 (oz14 p2_0 s43 kn1) (kj_meas (oz1037 s43 kn1) (oz1038 c5 kn121) hm2)
            by_cases w44 : ((a2 11).getD l2_2.toNatClampNeg 0).toInt = 126
            ·
              refine ko_eq (x1 := (48, [(2, .int (l2_2 + 1)), (5, .int ((a2 12).getD l2_2.toNatClampNeg 0)), (4, .int ((a2 11).getD l2_2.toNatClampNeg 0)), (3, .int l3_2), (0, .ref 10), (1, .ref 24)], [.int 126], (0, 0), ks i2 a2 q2 r2)) (by rw [(kj_eq w44 (by decide) : ((a2 11).getD l2_2.toNatClampNeg 0) = 126)]) ?_
              first | refine ft_go mi_k21 3 183 [(2, .int (l2_2 + 1)), (5, .int ((a2 12).getD l2_2.toNatClampNeg 0)), (4, .int ((a2 11).getD l2_2.toNatClampNeg 0)), (3, .int l3_2), (0, .ref 10), (1, .ref 24)] [.ref 10, .ref 10] i2 a2 q2 r2 (by rfl) ?_ | refine ko_steps mi_in21 3 _ (183, [(2, .int (l2_2 + 1)), (5, .int ((a2 12).getD l2_2.toNatClampNeg 0)), (4, .int ((a2 11).getD l2_2.toNatClampNeg 0)), (3, .int l3_2), (0, .ref 10), (1, .ref 24)], [.ref 10, .ref 10], (0, 0), ks i2 a2 q2 r2) (by rfl) ?_
              refine ko_callI mi_k21.1 (pc := 183) (ls := [(2, .int (l2_2 + 1)), (5, .int ((a2 12).getD l2_2.toNatClampNeg 0)), (4, .int ((a2 11).getD l2_2.toNatClampNeg 0)), (3, .int l3_2), (0, .ref 10), (1, .ref 24)]) (st := [.ref 10, .ref 10]) (h := ks i2 a2 q2 r2) (i := (.invokevirtual 36, 3, 20, 0, 9, 0, 226)) (mi_k21.2 _ _ (by rfl)) (ft_invS mi_pq20 (by rfl)) (cy := mi_c20) mi_pq20 rfl (kc20_10 hL2.I hL2.R ) (by decide) ?_
              intro vg45 ig45 ag45 qg45 rg45 kg45 hg45
              have hGg45 := kG_call hL2 kg45 (by decide +kernel)
              first | refine ft_go mi_k21 1 187 [(2, .int (l2_2 + 1)), (5, .int ((a2 12).getD l2_2.toNatClampNeg 0)), (4, .int ((a2 11).getD l2_2.toNatClampNeg 0)), (3, .int l3_2), (0, .ref 10), (1, .ref 24)] [.int (-vg45), .ref 10] ig45 ag45 qg45 rg45 (by rfl) ?_ | refine ko_steps mi_in21 1 _ (187, [(2, .int (l2_2 + 1)), (5, .int ((a2 12).getD l2_2.toNatClampNeg 0)), (4, .int ((a2 11).getD l2_2.toNatClampNeg 0)), (3, .int l3_2), (0, .ref 10), (1, .ref 24)], [.int (-vg45), .ref 10], (0, 0), ks ig45 ag45 qg45 rg45) (by rfl) ?_
              refine ko_callN mi_k21.1 (pc := 187) (ls := [(2, .int (l2_2 + 1)), (5, .int ((a2 12).getD l2_2.toNatClampNeg 0)), (4, .int ((a2 11).getD l2_2.toNatClampNeg 0)), (3, .int l3_2), (0, .ref 10), (1, .ref 24)]) (st := [.int (-vg45), .ref 10]) (h := ks ig45 ag45 qg45 rg45) (i := (.invokevirtual 32, 3, 19, 0, 9, 0, 225)) (mi_k21.2 _ _ (by rfl)) (ft_invS mi_pq19 (by rfl)) (cy := mi_c19) mi_pq19 rfl (kc19_10 hGg45.I hGg45.R (-vg45)) (by decide) ?_
              intro ig46 ag46 qg46 rg46 kg46 hg46
              have hGg46 := kG_call hGg45 kg46 (by decide +kernel)
              have s47 : (l3_2 + 1).toInt = l3_2.toInt + (1 : Int32).toInt := kd_add (oz12 p2_0 kn1) (oz1036 c5 kn121 kn1)
              first | refine ft_go mi_k21 3 9 [(3, .int (l3_2 + 1)), (2, .int (l2_2 + 1)), (5, .int ((a2 12).getD l2_2.toNatClampNeg 0)), (4, .int ((a2 11).getD l2_2.toNatClampNeg 0)), (0, .ref 10), (1, .ref 24)] [] ig46 ag46 qg46 rg46 (by rfl) ?_ | refine ko_steps mi_in21 3 _ (9, [(3, .int (l3_2 + 1)), (2, .int (l2_2 + 1)), (5, .int ((a2 12).getD l2_2.toNatClampNeg 0)), (4, .int ((a2 11).getD l2_2.toNatClampNeg 0)), (0, .ref 10), (1, .ref 24)], [], (0, 0), ks ig46 ag46 qg46 rg46) (by rfl) ?_
              refine ko_perm [(3, .int (l3_2 + 1)), (2, .int (l2_2 + 1)), (0, .ref 10), (1, .ref 24)] (List.forall_mem_cons.mpr ⟨(List.Mem.head _), (List.forall_mem_cons.mpr ⟨(List.Mem.tail _ (List.Mem.head _)), (List.forall_mem_cons.mpr ⟨(List.Mem.tail _ (List.Mem.tail _ (List.Mem.tail _ (List.Mem.tail _ (List.Mem.head _))))), (List.forall_mem_cons.mpr ⟨(List.Mem.tail _ (List.Mem.tail _ (List.Mem.tail _ (List.Mem.tail _ (List.Mem.tail _ (List.Mem.head _)))))), (fun _ h => absurd h List.not_mem_nil)⟩)⟩)⟩)⟩) ?_
              exact ih2 _ _ _ _ _ _ hGg46 (oz14 p2_0 s47 kn1) (kj_meas (oz1037 s47 kn1) (oz1038 c5 kn121) hm2)
            refine ko_lsw (ls := [(2, .int (l2_2 + 1)), (5, .int ((a2 12).getD l2_2.toNatClampNeg 0)), (4, .int ((a2 11).getD l2_2.toNatClampNeg 0)), (3, .int l3_2), (0, .ref 10), (1, .ref 24)]) (r := []) (h := ks i2 a2 q2 r2) mi_in21 (v := ((a2 11).getD l2_2.toNatClampNeg 0)) (i := (.lookupswitch 145 #[(0, 60), (1, 69), (2, 96), (3, 101), (33, 114), (126, 133)], 60, 0, 0, 0, 0, 0)) (by rfl) rfl (by simp only [Op.lookupswitch.offset, if_neg (Ne.symm w13), if_neg (Ne.symm w16), if_neg (Ne.symm w27), if_neg (Ne.symm w30), if_neg (Ne.symm w36), if_neg (Ne.symm w44)] <;> rfl) 193 (by rfl) ?_
            first | refine ft_go mi_k21 1 194 [(2, .int (l2_2 + 1)), (5, .int ((a2 12).getD l2_2.toNatClampNeg 0)), (4, .int ((a2 11).getD l2_2.toNatClampNeg 0)), (3, .int l3_2), (0, .ref 10), (1, .ref 24)] [.ref 10] i2 a2 q2 r2 (by rfl) ?_ | refine ko_steps mi_in21 1 _ (194, [(2, .int (l2_2 + 1)), (5, .int ((a2 12).getD l2_2.toNatClampNeg 0)), (4, .int ((a2 11).getD l2_2.toNatClampNeg 0)), (3, .int l3_2), (0, .ref 10), (1, .ref 24)], [.ref 10], (0, 0), ks i2 a2 q2 r2) (by rfl) ?_
            refine ko_callI mi_k21.1 (pc := 194) (ls := [(2, .int (l2_2 + 1)), (5, .int ((a2 12).getD l2_2.toNatClampNeg 0)), (4, .int ((a2 11).getD l2_2.toNatClampNeg 0)), (3, .int l3_2), (0, .ref 10), (1, .ref 24)]) (st := [.ref 10]) (h := ks i2 a2 q2 r2) (i := (.invokevirtual 36, 3, 20, 0, 9, 0, 226)) (mi_k21.2 _ _ (by rfl)) (ft_invS mi_pq20 (by rfl)) (cy := mi_c20) mi_pq20 rfl (kc20_10 hL2.I hL2.R ) (by decide) ?_
            intro vg48 ig48 ag48 qg48 rg48 kg48 hg48
            have hGg48 := kG_call hL2 kg48 (by decide +kernel)
            first | refine ft_go mi_k21 4 203 [(6, .int vg48), (2, .int (l2_2 + 1)), (5, .int ((a2 12).getD l2_2.toNatClampNeg 0)), (4, .int ((a2 11).getD l2_2.toNatClampNeg 0)), (3, .int l3_2), (0, .ref 10), (1, .ref 24)] [.ref 10, .int ((a2 11).getD l2_2.toNatClampNeg 0), .ref 10] ig48 ag48 qg48 rg48 (by rfl) ?_ | refine ko_steps mi_in21 4 _ (203, [(6, .int vg48), (2, .int (l2_2 + 1)), (5, .int ((a2 12).getD l2_2.toNatClampNeg 0)), (4, .int ((a2 11).getD l2_2.toNatClampNeg 0)), (3, .int l3_2), (0, .ref 10), (1, .ref 24)], [.ref 10, .int ((a2 11).getD l2_2.toNatClampNeg 0), .ref 10], (0, 0), ks ig48 ag48 qg48 rg48) (by rfl) ?_
            refine ko_callI mi_k21.1 (pc := 203) (ls := [(6, .int vg48), (2, .int (l2_2 + 1)), (5, .int ((a2 12).getD l2_2.toNatClampNeg 0)), (4, .int ((a2 11).getD l2_2.toNatClampNeg 0)), (3, .int l3_2), (0, .ref 10), (1, .ref 24)]) (st := [.ref 10, .int ((a2 11).getD l2_2.toNatClampNeg 0), .ref 10]) (h := ks ig48 ag48 qg48 rg48) (i := (.invokevirtual 36, 3, 20, 0, 9, 0, 226)) (mi_k21.2 _ _ (by rfl)) (ft_invS mi_pq20 (by rfl)) (cy := mi_c20) mi_pq20 rfl (kc20_10 hGg48.I hGg48.R ) (by decide) ?_
            intro vg49 ig49 ag49 qg49 rg49 kg49 hg49
            have hGg49 := kG_call hGg48 kg49 (by decide +kernel)
            first | refine ft_go mi_k21 1 208 [(6, .int vg48), (2, .int (l2_2 + 1)), (5, .int ((a2 12).getD l2_2.toNatClampNeg 0)), (4, .int ((a2 11).getD l2_2.toNatClampNeg 0)), (3, .int l3_2), (0, .ref 10), (1, .ref 24)] [.int vg48, .int vg49, .int ((a2 11).getD l2_2.toNatClampNeg 0), .ref 10] ig49 ag49 qg49 rg49 (by rfl) ?_ | refine ko_steps mi_in21 1 _ (208, [(6, .int vg48), (2, .int (l2_2 + 1)), (5, .int ((a2 12).getD l2_2.toNatClampNeg 0)), (4, .int ((a2 11).getD l2_2.toNatClampNeg 0)), (3, .int l3_2), (0, .ref 10), (1, .ref 24)], [.int vg48, .int vg49, .int ((a2 11).getD l2_2.toNatClampNeg 0), .ref 10], (0, 0), ks ig49 ag49 qg49 rg49) (by rfl) ?_
            refine ko_callPI mi_k21.1 (pc := 208) (ls := [(6, .int vg48), (2, .int (l2_2 + 1)), (5, .int ((a2 12).getD l2_2.toNatClampNeg 0)), (4, .int ((a2 11).getD l2_2.toNatClampNeg 0)), (3, .int l3_2), (0, .ref 10), (1, .ref 24)]) (st := [.int vg48, .int vg49, .int ((a2 11).getD l2_2.toNatClampNeg 0), .ref 10]) (h := ks ig49 ag49 qg49 rg49) (i := (.invokestatic 40, 3, 22, 0, 9, 0, 227)) (mi_k21.2 _ _ (by rfl)) (ft_invS mi_pq22 (by rfl)) (cy := mi_c22) mi_pq22 rfl (kc22 hGg49.I hGg49.R ((a2 11).getD l2_2.toNatClampNeg 0) vg49 vg48) (by decide) ?_
            intro vg50 hg50
            refine ko_callN mi_k21.1 (pc := 211) (ls := [(6, .int vg48), (2, .int (l2_2 + 1)), (5, .int ((a2 12).getD l2_2.toNatClampNeg 0)), (4, .int ((a2 11).getD l2_2.toNatClampNeg 0)), (3, .int l3_2), (0, .ref 10), (1, .ref 24)]) (st := [.int vg50, .ref 10]) (h := ks ig49 ag49 qg49 rg49) (i := (.invokevirtual 32, 3, 19, 0, 9, 0, 225)) (mi_k21.2 _ _ (by rfl)) (ft_invS mi_pq19 (by rfl)) (cy := mi_c19) mi_pq19 rfl (kc19_10 hGg49.I hGg49.R vg50) (by decide) ?_
            intro ig51 ag51 qg51 rg51 kg51 hg51
            have hGg51 := kG_call hGg49 kg51 (by decide +kernel)
            have s52 : (l3_2 + 1).toInt = l3_2.toInt + (1 : Int32).toInt := kd_add (oz12 p2_0 kn1) (oz1036 c5 kn121 kn1)
            first | refine ft_go mi_k21 2 9 [(3, .int (l3_2 + 1)), (6, .int vg48), (2, .int (l2_2 + 1)), (5, .int ((a2 12).getD l2_2.toNatClampNeg 0)), (4, .int ((a2 11).getD l2_2.toNatClampNeg 0)), (0, .ref 10), (1, .ref 24)] [] ig51 ag51 qg51 rg51 (by rfl) ?_ | refine ko_steps mi_in21 2 _ (9, [(3, .int (l3_2 + 1)), (6, .int vg48), (2, .int (l2_2 + 1)), (5, .int ((a2 12).getD l2_2.toNatClampNeg 0)), (4, .int ((a2 11).getD l2_2.toNatClampNeg 0)), (0, .ref 10), (1, .ref 24)], [], (0, 0), ks ig51 ag51 qg51 rg51) (by rfl) ?_
            refine ko_perm [(3, .int (l3_2 + 1)), (2, .int (l2_2 + 1)), (0, .ref 10), (1, .ref 24)] (List.forall_mem_cons.mpr ⟨(List.Mem.head _), (List.forall_mem_cons.mpr ⟨(List.Mem.tail _ (List.Mem.tail _ (List.Mem.head _))), (List.forall_mem_cons.mpr ⟨(List.Mem.tail _ (List.Mem.tail _ (List.Mem.tail _ (List.Mem.tail _ (List.Mem.tail _ (List.Mem.head _)))))), (List.forall_mem_cons.mpr ⟨(List.Mem.tail _ (List.Mem.tail _ (List.Mem.tail _ (List.Mem.tail _ (List.Mem.tail _ (List.Mem.tail _ (List.Mem.head _))))))), (fun _ h => absurd h List.not_mem_nil)⟩)⟩)⟩)⟩) ?_
            exact ih2 _ _ _ _ _ _ hGg51 (oz14 p2_0 s52 kn1) (kj_meas (oz1037 s52 kn1) (oz1038 c5 kn121) hm2)
  exact lp2 _ _ _ _ _ _ _ (kG_self _ hJ1.I hJ1.R) (oz46 kn0) (Nat.lt_succ_self _)
def w21_100_24 : kW := ([6405], [103], [], [])
def w21_100_24_L9 : kW := ([6405], [103], [], [])
set_option maxRecDepth 100000 in
theorem kc21_100_24 {i : Nat → Int32} {a : Nat → List Int32} {q : Nat → List Int64} {r : Nat → Nat} (hI : kI i a q) (hr : kr r)  : km 3 21 [.ref 100, .ref 24] (ks i a q r) (kVI w21_100_24 i a q r (fun v i1 a1 q1 r1 => True)) := by
  have hG := kG_self w21_100_24 hI hr
  refine km_ofI (q := (mi_h21, mi_c21)) rfl (by decide) (Nat.le_of_ble_eq_true rfl) ?_
  intro P hP
  have hJ1 := kG_i hG 6405 rfl (v := 0) ⟨(oz46 kn0), (oz1033 kn0)⟩
  first | refine ft_go mi_k21 7 9 [(3, .int 0), (2, .int 0), (0, .ref 100), (1, .ref 24)] [] (ku i 6405 0) a q r (by rfl) ?_ | refine ko_steps mi_in21 7 _ (9, [(3, .int 0), (2, .int 0), (0, .ref 100), (1, .ref 24)], [], (0, 0), ks (ku i 6405 0) a q r) (by rfl) ?_
  have lp2 : ∀ (nz : Nat) (i2 : Nat → Int32) (a2 : Nat → List Int32) (q2 : Nat → List Int64) (r2 : Nat → Nat) (l3_2 : Int32) (l2_2 : Int32), kG w21_100_24_L9 (ku i 6405 0) a q r i2 a2 q2 r2 → (0 : Int) ≤ l3_2.toInt → ((121 - l3_2.toInt)).toNat < nz → ko 3 (mi_h21, mi_c21) P (9, [(3, .int l3_2), (2, .int l2_2), (0, .ref 100), (1, .ref 24)], [], (0, 0), ks i2 a2 q2 r2) := by
    intro nz
    induction nz with
    | zero =>
      intro _ _ _ _ _ _ _ _ hm
      exact absurd hm (Nat.not_lt_zero _)
    | succ nz ih2 =>
      intro i2 a2 q2 r2 l3_2 l2_2 hL2 p2_0 hm2
      first | refine ft_go mi_k21 2 12 [(3, .int l3_2), (2, .int l2_2), (0, .ref 100), (1, .ref 24)] [.int 121, .int l3_2] i2 a2 q2 r2 (by rfl) ?_ | refine ko_steps mi_in21 2 _ (12, [(3, .int l3_2), (2, .int l2_2), (0, .ref 100), (1, .ref 24)], [.int 121, .int l3_2], (0, 0), ks i2 a2 q2 r2) (by rfl) ?_
      refine ft_if mi_k21 (decide (121 ≤ l3_2)) 220 15 [(3, .int l3_2), (2, .int l2_2), (0, .ref 100), (1, .ref 24)] [] (by rfl) (fun c => ?_) (fun c => ?_)
      ·
        have c3 : (121 : Int32).toInt ≤ l3_2.toInt := kd_le c; clear c
        have hG4 := kG_call hJ1 hL2 (by decide +kernel)
        first | refine ft_go mi_k21 1 221 [(3, .int l3_2), (2, .int l2_2), (0, .ref 100), (1, .ref 24)] [.int 0] i2 a2 q2 r2 (by rfl) ?_ | refine ko_steps mi_in21 1 _ (221, [(3, .int l3_2), (2, .int l2_2), (0, .ref 100), (1, .ref 24)], [.int 0], (0, 0), ks i2 a2 q2 r2) (by rfl) ?_
        exact ft_ret mi_k21 (by rfl) (hP 0 _ _ _ _ hG4 trivial)
      ·
        have c5 : l3_2.toInt < (121 : Int32).toInt := kd_leF c; clear c
        first | refine ft_go mi_k21 1 16 [(3, .int l3_2), (2, .int l2_2), (0, .ref 100), (1, .ref 24)] [.int l2_2] i2 a2 q2 r2 (by rfl) ?_ | refine ko_steps mi_in21 1 _ (16, [(3, .int l3_2), (2, .int l2_2), (0, .ref 100), (1, .ref 24)], [.int l2_2], (0, 0), ks i2 a2 q2 r2) (by rfl) ?_
        refine ft_if mi_k21 (decide (l2_2 < 0)) 220 19 [(3, .int l3_2), (2, .int l2_2), (0, .ref 100), (1, .ref 24)] [] (by rfl) (fun c => ?_) (fun c => ?_)
        ·
          have c6 : l2_2.toInt < (0 : Int32).toInt := kd_lt c; clear c
          have hG7 := kG_call hJ1 hL2 (by decide +kernel)
          first | refine ft_go mi_k21 1 221 [(3, .int l3_2), (2, .int l2_2), (0, .ref 100), (1, .ref 24)] [.int 0] i2 a2 q2 r2 (by rfl) ?_ | refine ko_steps mi_in21 1 _ (221, [(3, .int l3_2), (2, .int l2_2), (0, .ref 100), (1, .ref 24)], [.int 0], (0, 0), ks i2 a2 q2 r2) (by rfl) ?_
          exact ft_ret mi_k21 (by rfl) (hP 0 _ _ _ _ hG7 trivial)
        ·
          have c8 : (0 : Int32).toInt ≤ l2_2.toInt := kd_ltF c; clear c
          have fi2_6403 : ((0 : Int) ≤ (i2 6403).toInt) ∧ ((i2 6403).toInt ≤ 121) := hL2.I.1 6403
          have fi_6403 : ((0 : Int) ≤ (i 6403).toInt) ∧ ((i 6403).toInt ≤ 121) := hJ1.I.1 6403
          have efi2_6403 : (i2 6403).toInt = (i 6403).toInt := hL2.ti 6403 rfl
          first | refine ft_go mi_k21 3 24 [(3, .int l3_2), (2, .int l2_2), (0, .ref 100), (1, .ref 24)] [.int (i2 6403), .int l2_2] i2 a2 q2 r2 (by rfl) ?_ | refine ko_steps mi_in21 3 _ (24, [(3, .int l3_2), (2, .int l2_2), (0, .ref 100), (1, .ref 24)], [.int (i2 6403), .int l2_2], (0, 0), ks i2 a2 q2 r2) (by rfl) ?_
          refine ft_if mi_k21 (decide ((i2 6403) ≤ l2_2)) 220 27 [(3, .int l3_2), (2, .int l2_2), (0, .ref 100), (1, .ref 24)] [] (by rfl) (fun c => ?_) (fun c => ?_)
          ·
            have c9 : (i2 6403).toInt ≤ l2_2.toInt := kd_le c; clear c
            have hG10 := kG_call hJ1 hL2 (by decide +kernel)
            first | refine ft_go mi_k21 1 221 [(3, .int l3_2), (2, .int l2_2), (0, .ref 100), (1, .ref 24)] [.int 0] i2 a2 q2 r2 (by rfl) ?_ | refine ko_steps mi_in21 1 _ (221, [(3, .int l3_2), (2, .int l2_2), (0, .ref 100), (1, .ref 24)], [.int 0], (0, 0), ks i2 a2 q2 r2) (by rfl) ?_
            exact ft_ret mi_k21 (by rfl) (hP 0 _ _ _ _ hG10 trivial)
          ·
            have c11 : l2_2.toInt < (i2 6403).toInt := kd_leF c; clear c
            first | refine ft_go mi_k21 3 32 [(3, .int l3_2), (2, .int l2_2), (0, .ref 100), (1, .ref 24)] [.int l2_2, .ref 101] i2 a2 q2 r2 (by rfl) ?_ | refine ko_steps mi_in21 3 _ (32, [(3, .int l3_2), (2, .int l2_2), (0, .ref 100), (1, .ref 24)], [.int l2_2, .ref 101], (0, 0), ks i2 a2 q2 r2) (by rfl) ?_
            refine ko_iald3 mi_k21.1 (n := 121) (c := 121) (ax := (0, 0, 0, 0, 0)) (mi_k21.2 _ _ (by rfl)) (by rfl) (ksG101 _ _ _ _) (hL2.I.2.1 101) rfl (oz389 c8 kn0) (oz1034 c11 fi2_6403.2) ?_
            first | refine ft_go mi_k21 4 40 [(4, .int ((a2 101).getD l2_2.toNatClampNeg 0)), (3, .int l3_2), (2, .int l2_2), (0, .ref 100), (1, .ref 24)] [.int l2_2, .ref 102] i2 a2 q2 r2 (by rfl) ?_ | refine ko_steps mi_in21 4 _ (40, [(4, .int ((a2 101).getD l2_2.toNatClampNeg 0)), (3, .int l3_2), (2, .int l2_2), (0, .ref 100), (1, .ref 24)], [.int l2_2, .ref 102], (0, 0), ks i2 a2 q2 r2) (by rfl) ?_
            refine ko_iald3 mi_k21.1 (n := 121) (c := 121) (ax := (0, 0, 0, 0, 0)) (mi_k21.2 _ _ (by rfl)) (by rfl) (ksG102 _ _ _ _) (hL2.I.2.1 102) rfl (oz389 c8 kn0) (oz1034 c11 fi2_6403.2) ?_
            have s12 : (l2_2 + 1).toInt = l2_2.toInt + (1 : Int32).toInt := kd_add (oz950 c8 kn0 kn1) (oz1035 c11 fi2_6403.2 kn1)
            first | refine ft_go mi_k21 3 48 [(2, .int (l2_2 + 1)), (5, .int ((a2 102).getD l2_2.toNatClampNeg 0)), (4, .int ((a2 101).getD l2_2.toNatClampNeg 0)), (3, .int l3_2), (0, .ref 100), (1, .ref 24)] [.int ((a2 101).getD l2_2.toNatClampNeg 0)] i2 a2 q2 r2 (by rfl) ?_ | refine ko_steps mi_in21 3 _ (48, [(2, .int (l2_2 + 1)), (5, .int ((a2 102).getD l2_2.toNatClampNeg 0)), (4, .int ((a2 101).getD l2_2.toNatClampNeg 0)), (3, .int l3_2), (0, .ref 100), (1, .ref 24)], [.int ((a2 101).getD l2_2.toNatClampNeg 0)], (0, 0), ks i2 a2 q2 r2) (by rfl) ?_
            by_cases w13 : ((a2 101).getD l2_2.toNatClampNeg 0).toInt = 0
            ·
              refine ko_eq (x1 := (48, [(2, .int (l2_2 + 1)), (5, .int ((a2 102).getD l2_2.toNatClampNeg 0)), (4, .int ((a2 101).getD l2_2.toNatClampNeg 0)), (3, .int l3_2), (0, .ref 100), (1, .ref 24)], [.int 0], (0, 0), ks i2 a2 q2 r2)) (by rw [(kj_eq w13 (by decide) : ((a2 101).getD l2_2.toNatClampNeg 0) = 0)]) ?_
              first | refine ft_go mi_k21 3 111 [(2, .int (l2_2 + 1)), (5, .int ((a2 102).getD l2_2.toNatClampNeg 0)), (4, .int ((a2 101).getD l2_2.toNatClampNeg 0)), (3, .int l3_2), (0, .ref 100), (1, .ref 24)] [.int ((a2 102).getD l2_2.toNatClampNeg 0), .ref 100] i2 a2 q2 r2 (by rfl) ?_ | refine ko_steps mi_in21 3 _ (111, [(2, .int (l2_2 + 1)), (5, .int ((a2 102).getD l2_2.toNatClampNeg 0)), (4, .int ((a2 101).getD l2_2.toNatClampNeg 0)), (3, .int l3_2), (0, .ref 100), (1, .ref 24)], [.int ((a2 102).getD l2_2.toNatClampNeg 0), .ref 100], (0, 0), ks i2 a2 q2 r2) (by rfl) ?_
              refine ko_callN mi_k21.1 (pc := 111) (ls := [(2, .int (l2_2 + 1)), (5, .int ((a2 102).getD l2_2.toNatClampNeg 0)), (4, .int ((a2 101).getD l2_2.toNatClampNeg 0)), (3, .int l3_2), (0, .ref 100), (1, .ref 24)]) (st := [.int ((a2 102).getD l2_2.toNatClampNeg 0), .ref 100]) (h := ks i2 a2 q2 r2) (i := (.invokevirtual 32, 3, 19, 0, 9, 0, 225)) (mi_k21.2 _ _ (by rfl)) (ft_invS mi_pq19 (by rfl)) (cy := mi_c19) mi_pq19 rfl (kc19_100 hL2.I hL2.R ((a2 102).getD l2_2.toNatClampNeg 0)) (by decide) ?_
              intro ig14 ag14 qg14 rg14 kg14 hg14
              have hGg14 := kG_call hL2 kg14 (by decide +kernel)
              have s15 : (l3_2 + 1).toInt = l3_2.toInt + (1 : Int32).toInt := kd_add (oz12 p2_0 kn1) (oz1036 c5 kn121 kn1)
              first | refine ft_go mi_k21 3 9 [(3, .int (l3_2 + 1)), (2, .int (l2_2 + 1)), (5, .int ((a2 102).getD l2_2.toNatClampNeg 0)), (4, .int ((a2 101).getD l2_2.toNatClampNeg 0)), (0, .ref 100), (1, .ref 24)] [] ig14 ag14 qg14 rg14 (by rfl) ?_ | refine ko_steps mi_in21 3 _ (9, [(3, .int (l3_2 + 1)), (2, .int (l2_2 + 1)), (5, .int ((a2 102).getD l2_2.toNatClampNeg 0)), (4, .int ((a2 101).getD l2_2.toNatClampNeg 0)), (0, .ref 100), (1, .ref 24)], [], (0, 0), ks ig14 ag14 qg14 rg14) (by rfl) ?_
              refine ko_perm [(3, .int (l3_2 + 1)), (2, .int (l2_2 + 1)), (0, .ref 100), (1, .ref 24)] (List.forall_mem_cons.mpr ⟨(List.Mem.head _), (List.forall_mem_cons.mpr ⟨(List.Mem.tail _ (List.Mem.head _)), (List.forall_mem_cons.mpr ⟨(List.Mem.tail _ (List.Mem.tail _ (List.Mem.tail _ (List.Mem.tail _ (List.Mem.head _))))), (List.forall_mem_cons.mpr ⟨(List.Mem.tail _ (List.Mem.tail _ (List.Mem.tail _ (List.Mem.tail _ (List.Mem.tail _ (List.Mem.head _)))))), (fun _ h => absurd h List.not_mem_nil)⟩)⟩)⟩)⟩) ?_
              exact ih2 _ _ _ _ _ _ hGg14 (oz14 p2_0 s15 kn1) (kj_meas (oz1037 s15 kn1) (oz1038 c5 kn121) hm2)
            by_cases w16 : ((a2 101).getD l2_2.toNatClampNeg 0).toInt = 1
            ·
              refine ko_eq (x1 := (48, [(2, .int (l2_2 + 1)), (5, .int ((a2 102).getD l2_2.toNatClampNeg 0)), (4, .int ((a2 101).getD l2_2.toNatClampNeg 0)), (3, .int l3_2), (0, .ref 100), (1, .ref 24)], [.int 1], (0, 0), ks i2 a2 q2 r2)) (by rw [(kj_eq w16 (by decide) : ((a2 101).getD l2_2.toNatClampNeg 0) = 1)]) ?_
              first | refine ft_go mi_k21 3 120 [(2, .int (l2_2 + 1)), (5, .int ((a2 102).getD l2_2.toNatClampNeg 0)), (4, .int ((a2 101).getD l2_2.toNatClampNeg 0)), (3, .int l3_2), (0, .ref 100), (1, .ref 24)] [.int ((a2 102).getD l2_2.toNatClampNeg 0), .ref 100] i2 a2 q2 r2 (by rfl) ?_ | refine ko_steps mi_in21 3 _ (120, [(2, .int (l2_2 + 1)), (5, .int ((a2 102).getD l2_2.toNatClampNeg 0)), (4, .int ((a2 101).getD l2_2.toNatClampNeg 0)), (3, .int l3_2), (0, .ref 100), (1, .ref 24)], [.int ((a2 102).getD l2_2.toNatClampNeg 0), .ref 100], (0, 0), ks i2 a2 q2 r2) (by rfl) ?_
              refine ft_if mi_k21 (decide (((a2 102).getD l2_2.toNatClampNeg 0) < 0)) 137 123 [(2, .int (l2_2 + 1)), (5, .int ((a2 102).getD l2_2.toNatClampNeg 0)), (4, .int ((a2 101).getD l2_2.toNatClampNeg 0)), (3, .int l3_2), (0, .ref 100), (1, .ref 24)] [.ref 100] (by rfl) (fun c => ?_) (fun c => ?_)
              ·
                have c17 : ((a2 102).getD l2_2.toNatClampNeg 0).toInt < (0 : Int32).toInt := kd_lt c; clear c
                first | refine ft_go mi_k21 1 138 [(2, .int (l2_2 + 1)), (5, .int ((a2 102).getD l2_2.toNatClampNeg 0)), (4, .int ((a2 101).getD l2_2.toNatClampNeg 0)), (3, .int l3_2), (0, .ref 100), (1, .ref 24)] [.int 0, .ref 100] i2 a2 q2 r2 (by rfl) ?_ | refine ko_steps mi_in21 1 _ (138, [(2, .int (l2_2 + 1)), (5, .int ((a2 102).getD l2_2.toNatClampNeg 0)), (4, .int ((a2 101).getD l2_2.toNatClampNeg 0)), (3, .int l3_2), (0, .ref 100), (1, .ref 24)], [.int 0, .ref 100], (0, 0), ks i2 a2 q2 r2) (by rfl) ?_
                refine ko_callN mi_k21.1 (pc := 138) (ls := [(2, .int (l2_2 + 1)), (5, .int ((a2 102).getD l2_2.toNatClampNeg 0)), (4, .int ((a2 101).getD l2_2.toNatClampNeg 0)), (3, .int l3_2), (0, .ref 100), (1, .ref 24)]) (st := [.int 0, .ref 100]) (h := ks i2 a2 q2 r2) (i := (.invokevirtual 32, 3, 19, 0, 9, 0, 225)) (mi_k21.2 _ _ (by rfl)) (ft_invS mi_pq19 (by rfl)) (cy := mi_c19) mi_pq19 rfl (kc19_100 hL2.I hL2.R 0) (by decide) ?_
                intro ig18 ag18 qg18 rg18 kg18 hg18
                have hGg18 := kG_call hL2 kg18 (by decide +kernel)
                have s19 : (l3_2 + 1).toInt = l3_2.toInt + (1 : Int32).toInt := kd_add (oz12 p2_0 kn1) (oz1036 c5 kn121 kn1)
                first | refine ft_go mi_k21 3 9 [(3, .int (l3_2 + 1)), (2, .int (l2_2 + 1)), (5, .int ((a2 102).getD l2_2.toNatClampNeg 0)), (4, .int ((a2 101).getD l2_2.toNatClampNeg 0)), (0, .ref 100), (1, .ref 24)] [] ig18 ag18 qg18 rg18 (by rfl) ?_ | refine ko_steps mi_in21 3 _ (9, [(3, .int (l3_2 + 1)), (2, .int (l2_2 + 1)), (5, .int ((a2 102).getD l2_2.toNatClampNeg 0)), (4, .int ((a2 101).getD l2_2.toNatClampNeg 0)), (0, .ref 100), (1, .ref 24)], [], (0, 0), ks ig18 ag18 qg18 rg18) (by rfl) ?_
                refine ko_perm [(3, .int (l3_2 + 1)), (2, .int (l2_2 + 1)), (0, .ref 100), (1, .ref 24)] (List.forall_mem_cons.mpr ⟨(List.Mem.head _), (List.forall_mem_cons.mpr ⟨(List.Mem.tail _ (List.Mem.head _)), (List.forall_mem_cons.mpr ⟨(List.Mem.tail _ (List.Mem.tail _ (List.Mem.tail _ (List.Mem.tail _ (List.Mem.head _))))), (List.forall_mem_cons.mpr ⟨(List.Mem.tail _ (List.Mem.tail _ (List.Mem.tail _ (List.Mem.tail _ (List.Mem.tail _ (List.Mem.head _)))))), (fun _ h => absurd h List.not_mem_nil)⟩)⟩)⟩)⟩) ?_
                exact ih2 _ _ _ _ _ _ hGg18 (oz14 p2_0 s19 kn1) (kj_meas (oz1037 s19 kn1) (oz1038 c5 kn121) hm2)
              ·
                have c20 : (0 : Int32).toInt ≤ ((a2 102).getD l2_2.toNatClampNeg 0).toInt := kd_ltF c; clear c
                first | refine ft_go mi_k21 2 126 [(2, .int (l2_2 + 1)), (5, .int ((a2 102).getD l2_2.toNatClampNeg 0)), (4, .int ((a2 101).getD l2_2.toNatClampNeg 0)), (3, .int l3_2), (0, .ref 100), (1, .ref 24)] [.ref 24, .int ((a2 102).getD l2_2.toNatClampNeg 0), .ref 100] i2 a2 q2 r2 (by rfl) ?_ | refine ko_steps mi_in21 2 _ (126, [(2, .int (l2_2 + 1)), (5, .int ((a2 102).getD l2_2.toNatClampNeg 0)), (4, .int ((a2 101).getD l2_2.toNatClampNeg 0)), (3, .int l3_2), (0, .ref 100), (1, .ref 24)], [.ref 24, .int ((a2 102).getD l2_2.toNatClampNeg 0), .ref 100], (0, 0), ks i2 a2 q2 r2) (by rfl) ?_
                refine ko_alen mi_k21.1 (l := a2 24) (ax := (0, 0, 0, 0, 0)) (x := 6) (mi_k21.2 _ _ (by rfl)) (by rfl) (by rfl) (by rw [(hL2.I.2.1 24 : (a2 24).length = _)]; rfl) ?_
                refine ft_if mi_k21 (decide (6 ≤ ((a2 102).getD l2_2.toNatClampNeg 0))) 137 130 [(2, .int (l2_2 + 1)), (5, .int ((a2 102).getD l2_2.toNatClampNeg 0)), (4, .int ((a2 101).getD l2_2.toNatClampNeg 0)), (3, .int l3_2), (0, .ref 100), (1, .ref 24)] [.ref 100] (by rfl) (fun c => ?_) (fun c => ?_)
                ·
                  have c21 : (6 : Int32).toInt ≤ ((a2 102).getD l2_2.toNatClampNeg 0).toInt := kd_le c; clear c
                  first | refine ft_go mi_k21 1 138 [(2, .int (l2_2 + 1)), (5, .int ((a2 102).getD l2_2.toNatClampNeg 0)), (4, .int ((a2 101).getD l2_2.toNatClampNeg 0)), (3, .int l3_2), (0, .ref 100), (1, .ref 24)] [.int 0, .ref 100] i2 a2 q2 r2 (by rfl) ?_ | refine ko_steps mi_in21 1 _ (138, [(2, .int (l2_2 + 1)), (5, .int ((a2 102).getD l2_2.toNatClampNeg 0)), (4, .int ((a2 101).getD l2_2.toNatClampNeg 0)), (3, .int l3_2), (0, .ref 100), (1, .ref 24)], [.int 0, .ref 100], (0, 0), ks i2 a2 q2 r2) (by rfl) ?_
                  refine ko_callN mi_k21.1 (pc := 138) (ls := [(2, .int (l2_2 + 1)), (5, .int ((a2 102).getD l2_2.toNatClampNeg 0)), (4, .int ((a2 101).getD l2_2.toNatClampNeg 0)), (3, .int l3_2), (0, .ref 100), (1, .ref 24)]) (st := [.int 0, .ref 100]) (h := ks i2 a2 q2 r2) (i := (.invokevirtual 32, 3, 19, 0, 9, 0, 225)) (mi_k21.2 _ _ (by rfl)) (ft_invS mi_pq19 (by rfl)) (cy := mi_c19) mi_pq19 rfl (kc19_100 hL2.I hL2.R 0) (by decide) ?_
                  intro ig22 ag22 qg22 rg22 kg22 hg22
                  have hGg22 := kG_call hL2 kg22 (by decide +kernel)
                  have s23 : (l3_2 + 1).toInt = l3_2.toInt + (1 : Int32).toInt := kd_add (oz12 p2_0 kn1) (oz1036 c5 kn121 kn1)
                  first | refine ft_go mi_k21 3 9 [(3, .int (l3_2 + 1)), (2, .int (l2_2 + 1)), (5, .int ((a2 102).getD l2_2.toNatClampNeg 0)), (4, .int ((a2 101).getD l2_2.toNatClampNeg 0)), (0, .ref 100), (1, .ref 24)] [] ig22 ag22 qg22 rg22 (by rfl) ?_ | refine ko_steps mi_in21 3 _ (9, [(3, .int (l3_2 + 1)), (2, .int (l2_2 + 1)), (5, .int ((a2 102).getD l2_2.toNatClampNeg 0)), (4, .int ((a2 101).getD l2_2.toNatClampNeg 0)), (0, .ref 100), (1, .ref 24)], [], (0, 0), ks ig22 ag22 qg22 rg22) (by rfl) ?_
                  refine ko_perm [(3, .int (l3_2 + 1)), (2, .int (l2_2 + 1)), (0, .ref 100), (1, .ref 24)] (List.forall_mem_cons.mpr ⟨(List.Mem.head _), (List.forall_mem_cons.mpr ⟨(List.Mem.tail _ (List.Mem.head _)), (List.forall_mem_cons.mpr ⟨(List.Mem.tail _ (List.Mem.tail _ (List.Mem.tail _ (List.Mem.tail _ (List.Mem.head _))))), (List.forall_mem_cons.mpr ⟨(List.Mem.tail _ (List.Mem.tail _ (List.Mem.tail _ (List.Mem.tail _ (List.Mem.tail _ (List.Mem.head _)))))), (fun _ h => absurd h List.not_mem_nil)⟩)⟩)⟩)⟩) ?_
                  exact ih2 _ _ _ _ _ _ hGg22 (oz14 p2_0 s23 kn1) (kj_meas (oz1037 s23 kn1) (oz1038 c5 kn121) hm2)
                ·
                  have c24 : ((a2 102).getD l2_2.toNatClampNeg 0).toInt < (6 : Int32).toInt := kd_leF c; clear c
                  first | refine ft_go mi_k21 2 133 [(2, .int (l2_2 + 1)), (5, .int ((a2 102).getD l2_2.toNatClampNeg 0)), (4, .int ((a2 101).getD l2_2.toNatClampNeg 0)), (3, .int l3_2), (0, .ref 100), (1, .ref 24)] [.int ((a2 102).getD l2_2.toNatClampNeg 0), .ref 24, .ref 100] i2 a2 q2 r2 (by rfl) ?_ | refine ko_steps mi_in21 2 _ (133, [(2, .int (l2_2 + 1)), (5, .int ((a2 102).getD l2_2.toNatClampNeg 0)), (4, .int ((a2 101).getD l2_2.toNatClampNeg 0)), (3, .int l3_2), (0, .ref 100), (1, .ref 24)], [.int ((a2 102).getD l2_2.toNatClampNeg 0), .ref 24, .ref 100], (0, 0), ks i2 a2 q2 r2) (by rfl) ?_
                  refine ko_iald3 mi_k21.1 (n := 6) (c := 6) (ax := (0, 0, 0, 0, 0)) (mi_k21.2 _ _ (by rfl)) (by rfl) (ksG24 _ _ _ _) (hL2.I.2.1 24) rfl (oz389 c20 kn0) (oz1039 c24 kn6) ?_
                  first | refine ft_go mi_k21 1 138 [(2, .int (l2_2 + 1)), (5, .int ((a2 102).getD l2_2.toNatClampNeg 0)), (4, .int ((a2 101).getD l2_2.toNatClampNeg 0)), (3, .int l3_2), (0, .ref 100), (1, .ref 24)] [.int ((a2 24).getD ((a2 102).getD l2_2.toNatClampNeg 0).toNatClampNeg 0), .ref 100] i2 a2 q2 r2 (by rfl) ?_ | refine ko_steps mi_in21 1 _ (138, [(2, .int (l2_2 + 1)), (5, .int ((a2 102).getD l2_2.toNatClampNeg 0)), (4, .int ((a2 101).getD l2_2.toNatClampNeg 0)), (3, .int l3_2), (0, .ref 100), (1, .ref 24)], [.int ((a2 24).getD ((a2 102).getD l2_2.toNatClampNeg 0).toNatClampNeg 0), .ref 100], (0, 0), ks i2 a2 q2 r2) (by rfl) ?_
                  refine ko_callN mi_k21.1 (pc := 138) (ls := [(2, .int (l2_2 + 1)), (5, .int ((a2 102).getD l2_2.toNatClampNeg 0)), (4, .int ((a2 101).getD l2_2.toNatClampNeg 0)), (3, .int l3_2), (0, .ref 100), (1, .ref 24)]) (st := [.int ((a2 24).getD ((a2 102).getD l2_2.toNatClampNeg 0).toNatClampNeg 0), .ref 100]) (h := ks i2 a2 q2 r2) (i := (.invokevirtual 32, 3, 19, 0, 9, 0, 225)) (mi_k21.2 _ _ (by rfl)) (ft_invS mi_pq19 (by rfl)) (cy := mi_c19) mi_pq19 rfl (kc19_100 hL2.I hL2.R ((a2 24).getD ((a2 102).getD l2_2.toNatClampNeg 0).toNatClampNeg 0)) (by decide) ?_
                  intro ig25 ag25 qg25 rg25 kg25 hg25
                  have hGg25 := kG_call hL2 kg25 (by decide +kernel)
                  have s26 : (l3_2 + 1).toInt = l3_2.toInt + (1 : Int32).toInt := kd_add (oz12 p2_0 kn1) (oz1036 c5 kn121 kn1)
                  first | refine ft_go mi_k21 3 9 [(3, .int (l3_2 + 1)), (2, .int (l2_2 + 1)), (5, .int ((a2 102).getD l2_2.toNatClampNeg 0)), (4, .int ((a2 101).getD l2_2.toNatClampNeg 0)), (0, .ref 100), (1, .ref 24)] [] ig25 ag25 qg25 rg25 (by rfl) ?_ | refine ko_steps mi_in21 3 _ (9, [(3, .int (l3_2 + 1)), (2, .int (l2_2 + 1)), (5, .int ((a2 102).getD l2_2.toNatClampNeg 0)), (4, .int ((a2 101).getD l2_2.toNatClampNeg 0)), (0, .ref 100), (1, .ref 24)], [], (0, 0), ks ig25 ag25 qg25 rg25) (by rfl) ?_
                  refine ko_perm [(3, .int (l3_2 + 1)), (2, .int (l2_2 + 1)), (0, .ref 100), (1, .ref 24)] (List.forall_mem_cons.mpr ⟨(List.Mem.head _), (List.forall_mem_cons.mpr ⟨(List.Mem.tail _ (List.Mem.head _)), (List.forall_mem_cons.mpr ⟨(List.Mem.tail _ (List.Mem.tail _ (List.Mem.tail _ (List.Mem.tail _ (List.Mem.head _))))), (List.forall_mem_cons.mpr ⟨(List.Mem.tail _ (List.Mem.tail _ (List.Mem.tail _ (List.Mem.tail _ (List.Mem.tail _ (List.Mem.head _)))))), (fun _ h => absurd h List.not_mem_nil)⟩)⟩)⟩)⟩) ?_
                  exact ih2 _ _ _ _ _ _ hGg25 (oz14 p2_0 s26 kn1) (kj_meas (oz1037 s26 kn1) (oz1038 c5 kn121) hm2)
            by_cases w27 : ((a2 101).getD l2_2.toNatClampNeg 0).toInt = 2
            ·
              refine ko_eq (x1 := (48, [(2, .int (l2_2 + 1)), (5, .int ((a2 102).getD l2_2.toNatClampNeg 0)), (4, .int ((a2 101).getD l2_2.toNatClampNeg 0)), (3, .int l3_2), (0, .ref 100), (1, .ref 24)], [.int 2], (0, 0), ks i2 a2 q2 r2)) (by rw [(kj_eq w27 (by decide) : ((a2 101).getD l2_2.toNatClampNeg 0) = 2)]) ?_
              first | refine ft_go mi_k21 1 144 [(2, .int (l2_2 + 1)), (5, .int ((a2 102).getD l2_2.toNatClampNeg 0)), (4, .int ((a2 101).getD l2_2.toNatClampNeg 0)), (3, .int l3_2), (0, .ref 100), (1, .ref 24)] [] i2 a2 q2 r2 (by rfl) ?_ | refine ko_steps mi_in21 1 _ (144, [(2, .int (l2_2 + 1)), (5, .int ((a2 102).getD l2_2.toNatClampNeg 0)), (4, .int ((a2 101).getD l2_2.toNatClampNeg 0)), (3, .int l3_2), (0, .ref 100), (1, .ref 24)], [], (0, 0), ks i2 a2 q2 r2) (by rfl) ?_
              have hG28 := kG_call hJ1 hL2 (by decide +kernel)
              first | refine ft_go mi_k21 1 145 [(2, .int (l2_2 + 1)), (5, .int ((a2 102).getD l2_2.toNatClampNeg 0)), (4, .int ((a2 101).getD l2_2.toNatClampNeg 0)), (3, .int l3_2), (0, .ref 100), (1, .ref 24)] [.ref 100] i2 a2 q2 r2 (by rfl) ?_ | refine ko_steps mi_in21 1 _ (145, [(2, .int (l2_2 + 1)), (5, .int ((a2 102).getD l2_2.toNatClampNeg 0)), (4, .int ((a2 101).getD l2_2.toNatClampNeg 0)), (3, .int l3_2), (0, .ref 100), (1, .ref 24)], [.ref 100], (0, 0), ks i2 a2 q2 r2) (by rfl) ?_
              refine ko_callI mi_k21.1 (pc := 145) (ls := [(2, .int (l2_2 + 1)), (5, .int ((a2 102).getD l2_2.toNatClampNeg 0)), (4, .int ((a2 101).getD l2_2.toNatClampNeg 0)), (3, .int l3_2), (0, .ref 100), (1, .ref 24)]) (st := [.ref 100]) (h := ks i2 a2 q2 r2) (i := (.invokevirtual 36, 3, 20, 0, 9, 0, 226)) (mi_k21.2 _ _ (by rfl)) (ft_invS mi_pq20 (by rfl)) (cy := mi_c20) mi_pq20 rfl (kc20_100 hG28.I hG28.R ) (by decide) ?_
              intro vg29 ig29 ag29 qg29 rg29 kg29 hg29
              have hGg29 := kG_call hG28 kg29 (by decide +kernel)
              exact ft_ret mi_k21 (by rfl) (hP vg29 _ _ _ _ hGg29 trivial)
            by_cases w30 : ((a2 101).getD l2_2.toNatClampNeg 0).toInt = 3
            ·
              refine ko_eq (x1 := (48, [(2, .int (l2_2 + 1)), (5, .int ((a2 102).getD l2_2.toNatClampNeg 0)), (4, .int ((a2 101).getD l2_2.toNatClampNeg 0)), (3, .int l3_2), (0, .ref 100), (1, .ref 24)], [.int 3], (0, 0), ks i2 a2 q2 r2)) (by rw [(kj_eq w30 (by decide) : ((a2 101).getD l2_2.toNatClampNeg 0) = 3)]) ?_
              first | refine ft_go mi_k21 2 150 [(2, .int (l2_2 + 1)), (5, .int ((a2 102).getD l2_2.toNatClampNeg 0)), (4, .int ((a2 101).getD l2_2.toNatClampNeg 0)), (3, .int l3_2), (0, .ref 100), (1, .ref 24)] [.ref 100] i2 a2 q2 r2 (by rfl) ?_ | refine ko_steps mi_in21 2 _ (150, [(2, .int (l2_2 + 1)), (5, .int ((a2 102).getD l2_2.toNatClampNeg 0)), (4, .int ((a2 101).getD l2_2.toNatClampNeg 0)), (3, .int l3_2), (0, .ref 100), (1, .ref 24)], [.ref 100], (0, 0), ks i2 a2 q2 r2) (by rfl) ?_
              refine ko_callI mi_k21.1 (pc := 150) (ls := [(2, .int (l2_2 + 1)), (5, .int ((a2 102).getD l2_2.toNatClampNeg 0)), (4, .int ((a2 101).getD l2_2.toNatClampNeg 0)), (3, .int l3_2), (0, .ref 100), (1, .ref 24)]) (st := [.ref 100]) (h := ks i2 a2 q2 r2) (i := (.invokevirtual 36, 3, 20, 0, 9, 0, 226)) (mi_k21.2 _ _ (by rfl)) (ft_invS mi_pq20 (by rfl)) (cy := mi_c20) mi_pq20 rfl (kc20_100 hL2.I hL2.R ) (by decide) ?_
              intro vg31 ig31 ag31 qg31 rg31 kg31 hg31
              have hGg31 := kG_call hL2 kg31 (by decide +kernel)
              refine ft_if mi_k21 (vg31 != 0) 214 156 [(2, .int (l2_2 + 1)), (5, .int ((a2 102).getD l2_2.toNatClampNeg 0)), (4, .int ((a2 101).getD l2_2.toNatClampNeg 0)), (3, .int l3_2), (0, .ref 100), (1, .ref 24)] [] (by rfl) (fun c => ?_) (fun c => ?_)
              ·
                have c32 : vg31.toInt ≠ (0 : Int32).toInt := kd_ne c; clear c
                have s33 : (l3_2 + 1).toInt = l3_2.toInt + (1 : Int32).toInt := kd_add (oz12 p2_0 kn1) (oz1036 c5 kn121 kn1)
                first | refine ft_go mi_k21 2 9 [(3, .int (l3_2 + 1)), (2, .int (l2_2 + 1)), (5, .int ((a2 102).getD l2_2.toNatClampNeg 0)), (4, .int ((a2 101).getD l2_2.toNatClampNeg 0)), (0, .ref 100), (1, .ref 24)] [] ig31 ag31 qg31 rg31 (by rfl) ?_ | refine ko_steps mi_in21 2 _ (9, [(3, .int (l3_2 + 1)), (2, .int (l2_2 + 1)), (5, .int ((a2 102).getD l2_2.toNatClampNeg 0)), (4, .int ((a2 101).getD l2_2.toNatClampNeg 0)), (0, .ref 100), (1, .ref 24)], [], (0, 0), ks ig31 ag31 qg31 rg31) (by rfl) ?_
                refine ko_perm [(3, .int (l3_2 + 1)), (2, .int (l2_2 + 1)), (0, .ref 100), (1, .ref 24)] (List.forall_mem_cons.mpr ⟨(List.Mem.head _), (List.forall_mem_cons.mpr ⟨(List.Mem.tail _ (List.Mem.head _)), (List.forall_mem_cons.mpr ⟨(List.Mem.tail _ (List.Mem.tail _ (List.Mem.tail _ (List.Mem.tail _ (List.Mem.head _))))), (List.forall_mem_cons.mpr ⟨(List.Mem.tail _ (List.Mem.tail _ (List.Mem.tail _ (List.Mem.tail _ (List.Mem.tail _ (List.Mem.head _)))))), (fun _ h => absurd h List.not_mem_nil)⟩)⟩)⟩)⟩) ?_
                exact ih2 _ _ _ _ _ _ hGg31 (oz14 p2_0 s33 kn1) (kj_meas (oz1037 s33 kn1) (oz1038 c5 kn121) hm2)
              ·
                have c34 : vg31.toInt = (0 : Int32).toInt := kd_neF c; clear c
                have s35 : (l3_2 + 1).toInt = l3_2.toInt + (1 : Int32).toInt := kd_add (oz12 p2_0 kn1) (oz1036 c5 kn121 kn1)
                first | refine ft_go mi_k21 5 9 [(3, .int (l3_2 + 1)), (2, .int ((a2 102).getD l2_2.toNatClampNeg 0)), (5, .int ((a2 102).getD l2_2.toNatClampNeg 0)), (4, .int ((a2 101).getD l2_2.toNatClampNeg 0)), (0, .ref 100), (1, .ref 24)] [] ig31 ag31 qg31 rg31 (by rfl) ?_ | refine ko_steps mi_in21 5 _ (9, [(3, .int (l3_2 + 1)), (2, .int ((a2 102).getD l2_2.toNatClampNeg 0)), (5, .int ((a2 102).getD l2_2.toNatClampNeg 0)), (4, .int ((a2 101).getD l2_2.toNatClampNeg 0)), (0, .ref 100), (1, .ref 24)], [], (0, 0), ks ig31 ag31 qg31 rg31) (by rfl) ?_
                refine ko_perm [(3, .int (l3_2 + 1)), (2, .int ((a2 102).getD l2_2.toNatClampNeg 0)), (0, .ref 100), (1, .ref 24)] (List.forall_mem_cons.mpr ⟨(List.Mem.head _), (List.forall_mem_cons.mpr ⟨(List.Mem.tail _ (List.Mem.head _)), (List.forall_mem_cons.mpr ⟨(List.Mem.tail _ (List.Mem.tail _ (List.Mem.tail _ (List.Mem.tail _ (List.Mem.head _))))), (List.forall_mem_cons.mpr ⟨(List.Mem.tail _ (List.Mem.tail _ (List.Mem.tail _ (List.Mem.tail _ (List.Mem.tail _ (List.Mem.head _)))))), (fun _ h => absurd h List.not_mem_nil)⟩)⟩)⟩)⟩) ?_
                exact ih2 _ _ _ _ _ _ hGg31 (oz14 p2_0 s35 kn1) (kj_meas (oz1037 s35 kn1) (oz1038 c5 kn121) hm2)
            by_cases w36 : ((a2 101).getD l2_2.toNatClampNeg 0).toInt = 33
            ·
              refine ko_eq (x1 := (48, [(2, .int (l2_2 + 1)), (5, .int ((a2 102).getD l2_2.toNatClampNeg 0)), (4, .int ((a2 101).getD l2_2.toNatClampNeg 0)), (3, .int l3_2), (0, .ref 100), (1, .ref 24)], [.int 33], (0, 0), ks i2 a2 q2 r2)) (by rw [(kj_eq w36 (by decide) : ((a2 101).getD l2_2.toNatClampNeg 0) = 33)]) ?_
              first | refine ft_go mi_k21 3 164 [(2, .int (l2_2 + 1)), (5, .int ((a2 102).getD l2_2.toNatClampNeg 0)), (4, .int ((a2 101).getD l2_2.toNatClampNeg 0)), (3, .int l3_2), (0, .ref 100), (1, .ref 24)] [.ref 100, .ref 100] i2 a2 q2 r2 (by rfl) ?_ | refine ko_steps mi_in21 3 _ (164, [(2, .int (l2_2 + 1)), (5, .int ((a2 102).getD l2_2.toNatClampNeg 0)), (4, .int ((a2 101).getD l2_2.toNatClampNeg 0)), (3, .int l3_2), (0, .ref 100), (1, .ref 24)], [.ref 100, .ref 100], (0, 0), ks i2 a2 q2 r2) (by rfl) ?_
              refine ko_callI mi_k21.1 (pc := 164) (ls := [(2, .int (l2_2 + 1)), (5, .int ((a2 102).getD l2_2.toNatClampNeg 0)), (4, .int ((a2 101).getD l2_2.toNatClampNeg 0)), (3, .int l3_2), (0, .ref 100), (1, .ref 24)]) (st := [.ref 100, .ref 100]) (h := ks i2 a2 q2 r2) (i := (.invokevirtual 36, 3, 20, 0, 9, 0, 226)) (mi_k21.2 _ _ (by rfl)) (ft_invS mi_pq20 (by rfl)) (cy := mi_c20) mi_pq20 rfl (kc20_100 hL2.I hL2.R ) (by decide) ?_
              intro vg37 ig37 ag37 qg37 rg37 kg37 hg37
              have hGg37 := kG_call hL2 kg37 (by decide +kernel)
              refine ft_if mi_k21 (vg37 != 0) 174 170 [(2, .int (l2_2 + 1)), (5, .int ((a2 102).getD l2_2.toNatClampNeg 0)), (4, .int ((a2 101).getD l2_2.toNatClampNeg 0)), (3, .int l3_2), (0, .ref 100), (1, .ref 24)] [.ref 100] (by rfl) (fun c => ?_) (fun c => ?_)
              ·
                have c38 : vg37.toInt ≠ (0 : Int32).toInt := kd_ne c; clear c
                first | refine ft_go mi_k21 1 175 [(2, .int (l2_2 + 1)), (5, .int ((a2 102).getD l2_2.toNatClampNeg 0)), (4, .int ((a2 101).getD l2_2.toNatClampNeg 0)), (3, .int l3_2), (0, .ref 100), (1, .ref 24)] [.int 0, .ref 100] ig37 ag37 qg37 rg37 (by rfl) ?_ | refine ko_steps mi_in21 1 _ (175, [(2, .int (l2_2 + 1)), (5, .int ((a2 102).getD l2_2.toNatClampNeg 0)), (4, .int ((a2 101).getD l2_2.toNatClampNeg 0)), (3, .int l3_2), (0, .ref 100), (1, .ref 24)], [.int 0, .ref 100], (0, 0), ks ig37 ag37 qg37 rg37) (by rfl) ?_
                refine ko_callN mi_k21.1 (pc := 175) (ls := [(2, .int (l2_2 + 1)), (5, .int ((a2 102).getD l2_2.toNatClampNeg 0)), (4, .int ((a2 101).getD l2_2.toNatClampNeg 0)), (3, .int l3_2), (0, .ref 100), (1, .ref 24)]) (st := [.int 0, .ref 100]) (h := ks ig37 ag37 qg37 rg37) (i := (.invokevirtual 32, 3, 19, 0, 9, 0, 225)) (mi_k21.2 _ _ (by rfl)) (ft_invS mi_pq19 (by rfl)) (cy := mi_c19) mi_pq19 rfl (kc19_100 hGg37.I hGg37.R 0) (by decide) ?_
                intro ig39 ag39 qg39 rg39 kg39 hg39
                have hGg39 := kG_call hGg37 kg39 (by decide +kernel)
                have s40 : (l3_2 + 1).toInt = l3_2.toInt + (1 : Int32).toInt := kd_add (oz12 p2_0 kn1) (oz1036 c5 kn121 kn1)
                first | refine ft_go mi_k21 3 9 [(3, .int (l3_2 + 1)), (2, .int (l2_2 + 1)), (5, .int ((a2 102).getD l2_2.toNatClampNeg 0)), (4, .int ((a2 101).getD l2_2.toNatClampNeg 0)), (0, .ref 100), (1, .ref 24)] [] ig39 ag39 qg39 rg39 (by rfl) ?_ | refine ko_steps mi_in21 3 _ (9, [(3, .int (l3_2 + 1)), (2, .int (l2_2 + 1)), (5, .int ((a2 102).getD l2_2.toNatClampNeg 0)), (4, .int ((a2 101).getD l2_2.toNatClampNeg 0)), (0, .ref 100), (1, .ref 24)], [], (0, 0), ks ig39 ag39 qg39 rg39) (by rfl) ?_
                refine ko_perm [(3, .int (l3_2 + 1)), (2, .int (l2_2 + 1)), (0, .ref 100), (1, .ref 24)] (List.forall_mem_cons.mpr ⟨(List.Mem.head _), (List.forall_mem_cons.mpr ⟨(List.Mem.tail _ (List.Mem.head _)), (List.forall_mem_cons.mpr ⟨(List.Mem.tail _ (List.Mem.tail _ (List.Mem.tail _ (List.Mem.tail _ (List.Mem.head _))))), (List.forall_mem_cons.mpr ⟨(List.Mem.tail _ (List.Mem.tail _ (List.Mem.tail _ (List.Mem.tail _ (List.Mem.tail _ (List.Mem.head _)))))), (fun _ h => absurd h List.not_mem_nil)⟩)⟩)⟩)⟩) ?_
                exact ih2 _ _ _ _ _ _ hGg39 (oz14 p2_0 s40 kn1) (kj_meas (oz1037 s40 kn1) (oz1038 c5 kn121) hm2)
              ·
                have c41 : vg37.toInt = (0 : Int32).toInt := kd_neF c; clear c
                first | refine ft_go mi_k21 2 175 [(2, .int (l2_2 + 1)), (5, .int ((a2 102).getD l2_2.toNatClampNeg 0)), (4, .int ((a2 101).getD l2_2.toNatClampNeg 0)), (3, .int l3_2), (0, .ref 100), (1, .ref 24)] [.int 1, .ref 100] ig37 ag37 qg37 rg37 (by rfl) ?_ | refine ko_steps mi_in21 2 _ (175, [(2, .int (l2_2 + 1)), (5, .int ((a2 102).getD l2_2.toNatClampNeg 0)), (4, .int ((a2 101).getD l2_2.toNatClampNeg 0)), (3, .int l3_2), (0, .ref 100), (1, .ref 24)], [.int 1, .ref 100], (0, 0), ks ig37 ag37 qg37 rg37) (by rfl) ?_
                refine ko_callN mi_k21.1 (pc := 175) (ls := [(2, .int (l2_2 + 1)), (5, .int ((a2 102).getD l2_2.toNatClampNeg 0)), (4, .int ((a2 101).getD l2_2.toNatClampNeg 0)), (3, .int l3_2), (0, .ref 100), (1, .ref 24)]) (st := [.int 1, .ref 100]) (h := ks ig37 ag37 qg37 rg37) (i := (.invokevirtual 32, 3, 19, 0, 9, 0, 225)) (mi_k21.2 _ _ (by rfl)) (ft_invS mi_pq19 (by rfl)) (cy := mi_c19) mi_pq19 rfl (kc19_100 hGg37.I hGg37.R 1) (by decide) ?_
                intro ig42 ag42 qg42 rg42 kg42 hg42
                have hGg42 := kG_call hGg37 kg42 (by decide +kernel)
                have s43 : (l3_2 + 1).toInt = l3_2.toInt + (1 : Int32).toInt := kd_add (oz12 p2_0 kn1) (oz1036 c5 kn121 kn1)
                first | refine ft_go mi_k21 3 9 [(3, .int (l3_2 + 1)), (2, .int (l2_2 + 1)), (5, .int ((a2 102).getD l2_2.toNatClampNeg 0)), (4, .int ((a2 101).getD l2_2.toNatClampNeg 0)), (0, .ref 100), (1, .ref 24)] [] ig42 ag42 qg42 rg42 (by rfl) ?_ | refine ko_steps mi_in21 3 _ (9, [(3, .int (l3_2 + 1)), (2, .int (l2_2 + 1)), (5, .int ((a2 102).getD l2_2.toNatClampNeg 0)), (4, .int ((a2 101).getD l2_2.toNatClampNeg 0)), (0, .ref 100), (1, .ref 24)], [], (0, 0), ks ig42 ag42 qg42 rg42) (by rfl) ?_
                refine ko_perm [(3, .int (l3_2 + 1)), (2, .int (l2_2 + 1)), (0, .ref 100), (1, .ref 24)] (List.forall_mem_cons.mpr ⟨(List.Mem.head _), (List.forall_mem_cons.mpr ⟨(List.Mem.tail _ (List.Mem.head _)), (List.forall_mem_cons.mpr ⟨(List.Mem.tail _ (List.Mem.tail _ (List.Mem.tail _ (List.Mem.tail _ (List.Mem.head _))))), (List.forall_mem_cons.mpr ⟨(List.Mem.tail _ (List.Mem.tail _ (List.Mem.tail _ (List.Mem.tail _ (List.Mem.tail _ (List.Mem.head _)))))), (fun _ h => absurd h List.not_mem_nil)⟩)⟩)⟩)⟩) ?_
                exact ih2 _ _ _ _ _ _ hGg42 (oz14 p2_0 s43 kn1) (kj_meas (oz1037 s43 kn1) (oz1038 c5 kn121) hm2)
            by_cases w44 : ((a2 101).getD l2_2.toNatClampNeg 0).toInt = 126
            ·
              refine ko_eq (x1 := (48, [(2, .int (l2_2 + 1)), (5, .int ((a2 102).getD l2_2.toNatClampNeg 0)), (4, .int ((a2 101).getD l2_2.toNatClampNeg 0)), (3, .int l3_2), (0, .ref 100), (1, .ref 24)], [.int 126], (0, 0), ks i2 a2 q2 r2)) (by rw [(kj_eq w44 (by decide) : ((a2 101).getD l2_2.toNatClampNeg 0) = 126)]) ?_
              first | refine ft_go mi_k21 3 183 [(2, .int (l2_2 + 1)), (5, .int ((a2 102).getD l2_2.toNatClampNeg 0)), (4, .int ((a2 101).getD l2_2.toNatClampNeg 0)), (3, .int l3_2), (0, .ref 100), (1, .ref 24)] [.ref 100, .ref 100] i2 a2 q2 r2 (by rfl) ?_ | refine ko_steps mi_in21 3 _ (183, [(2, .int (l2_2 + 1)), (5, .int ((a2 102).getD l2_2.toNatClampNeg 0)), (4, .int ((a2 101).getD l2_2.toNatClampNeg 0)), (3, .int l3_2), (0, .ref 100), (1, .ref 24)], [.ref 100, .ref 100], (0, 0), ks i2 a2 q2 r2) (by rfl) ?_
              refine ko_callI mi_k21.1 (pc := 183) (ls := [(2, .int (l2_2 + 1)), (5, .int ((a2 102).getD l2_2.toNatClampNeg 0)), (4, .int ((a2 101).getD l2_2.toNatClampNeg 0)), (3, .int l3_2), (0, .ref 100), (1, .ref 24)]) (st := [.ref 100, .ref 100]) (h := ks i2 a2 q2 r2) (i := (.invokevirtual 36, 3, 20, 0, 9, 0, 226)) (mi_k21.2 _ _ (by rfl)) (ft_invS mi_pq20 (by rfl)) (cy := mi_c20) mi_pq20 rfl (kc20_100 hL2.I hL2.R ) (by decide) ?_
              intro vg45 ig45 ag45 qg45 rg45 kg45 hg45
              have hGg45 := kG_call hL2 kg45 (by decide +kernel)
              first | refine ft_go mi_k21 1 187 [(2, .int (l2_2 + 1)), (5, .int ((a2 102).getD l2_2.toNatClampNeg 0)), (4, .int ((a2 101).getD l2_2.toNatClampNeg 0)), (3, .int l3_2), (0, .ref 100), (1, .ref 24)] [.int (-vg45), .ref 100] ig45 ag45 qg45 rg45 (by rfl) ?_ | refine ko_steps mi_in21 1 _ (187, [(2, .int (l2_2 + 1)), (5, .int ((a2 102).getD l2_2.toNatClampNeg 0)), (4, .int ((a2 101).getD l2_2.toNatClampNeg 0)), (3, .int l3_2), (0, .ref 100), (1, .ref 24)], [.int (-vg45), .ref 100], (0, 0), ks ig45 ag45 qg45 rg45) (by rfl) ?_
              refine ko_callN mi_k21.1 (pc := 187) (ls := [(2, .int (l2_2 + 1)), (5, .int ((a2 102).getD l2_2.toNatClampNeg 0)), (4, .int ((a2 101).getD l2_2.toNatClampNeg 0)), (3, .int l3_2), (0, .ref 100), (1, .ref 24)]) (st := [.int (-vg45), .ref 100]) (h := ks ig45 ag45 qg45 rg45) (i := (.invokevirtual 32, 3, 19, 0, 9, 0, 225)) (mi_k21.2 _ _ (by rfl)) (ft_invS mi_pq19 (by rfl)) (cy := mi_c19) mi_pq19 rfl (kc19_100 hGg45.I hGg45.R (-vg45)) (by decide) ?_
              intro ig46 ag46 qg46 rg46 kg46 hg46
              have hGg46 := kG_call hGg45 kg46 (by decide +kernel)
              have s47 : (l3_2 + 1).toInt = l3_2.toInt + (1 : Int32).toInt := kd_add (oz12 p2_0 kn1) (oz1036 c5 kn121 kn1)
              first | refine ft_go mi_k21 3 9 [(3, .int (l3_2 + 1)), (2, .int (l2_2 + 1)), (5, .int ((a2 102).getD l2_2.toNatClampNeg 0)), (4, .int ((a2 101).getD l2_2.toNatClampNeg 0)), (0, .ref 100), (1, .ref 24)] [] ig46 ag46 qg46 rg46 (by rfl) ?_ | refine ko_steps mi_in21 3 _ (9, [(3, .int (l3_2 + 1)), (2, .int (l2_2 + 1)), (5, .int ((a2 102).getD l2_2.toNatClampNeg 0)), (4, .int ((a2 101).getD l2_2.toNatClampNeg 0)), (0, .ref 100), (1, .ref 24)], [], (0, 0), ks ig46 ag46 qg46 rg46) (by rfl) ?_
              refine ko_perm [(3, .int (l3_2 + 1)), (2, .int (l2_2 + 1)), (0, .ref 100), (1, .ref 24)] (List.forall_mem_cons.mpr ⟨(List.Mem.head _), (List.forall_mem_cons.mpr ⟨(List.Mem.tail _ (List.Mem.head _)), (List.forall_mem_cons.mpr ⟨(List.Mem.tail _ (List.Mem.tail _ (List.Mem.tail _ (List.Mem.tail _ (List.Mem.head _))))), (List.forall_mem_cons.mpr ⟨(List.Mem.tail _ (List.Mem.tail _ (List.Mem.tail _ (List.Mem.tail _ (List.Mem.tail _ (List.Mem.head _)))))), (fun _ h => absurd h List.not_mem_nil)⟩)⟩)⟩)⟩) ?_
              exact ih2 _ _ _ _ _ _ hGg46 (oz14 p2_0 s47 kn1) (kj_meas (oz1037 s47 kn1) (oz1038 c5 kn121) hm2)
            refine ko_lsw (ls := [(2, .int (l2_2 + 1)), (5, .int ((a2 102).getD l2_2.toNatClampNeg 0)), (4, .int ((a2 101).getD l2_2.toNatClampNeg 0)), (3, .int l3_2), (0, .ref 100), (1, .ref 24)]) (r := []) (h := ks i2 a2 q2 r2) mi_in21 (v := ((a2 101).getD l2_2.toNatClampNeg 0)) (i := (.lookupswitch 145 #[(0, 60), (1, 69), (2, 96), (3, 101), (33, 114), (126, 133)], 60, 0, 0, 0, 0, 0)) (by rfl) rfl (by simp only [Op.lookupswitch.offset, if_neg (Ne.symm w13), if_neg (Ne.symm w16), if_neg (Ne.symm w27), if_neg (Ne.symm w30), if_neg (Ne.symm w36), if_neg (Ne.symm w44)] <;> rfl) 193 (by rfl) ?_
            first | refine ft_go mi_k21 1 194 [(2, .int (l2_2 + 1)), (5, .int ((a2 102).getD l2_2.toNatClampNeg 0)), (4, .int ((a2 101).getD l2_2.toNatClampNeg 0)), (3, .int l3_2), (0, .ref 100), (1, .ref 24)] [.ref 100] i2 a2 q2 r2 (by rfl) ?_ | refine ko_steps mi_in21 1 _ (194, [(2, .int (l2_2 + 1)), (5, .int ((a2 102).getD l2_2.toNatClampNeg 0)), (4, .int ((a2 101).getD l2_2.toNatClampNeg 0)), (3, .int l3_2), (0, .ref 100), (1, .ref 24)], [.ref 100], (0, 0), ks i2 a2 q2 r2) (by rfl) ?_
            refine ko_callI mi_k21.1 (pc := 194) (ls := [(2, .int (l2_2 + 1)), (5, .int ((a2 102).getD l2_2.toNatClampNeg 0)), (4, .int ((a2 101).getD l2_2.toNatClampNeg 0)), (3, .int l3_2), (0, .ref 100), (1, .ref 24)]) (st := [.ref 100]) (h := ks i2 a2 q2 r2) (i := (.invokevirtual 36, 3, 20, 0, 9, 0, 226)) (mi_k21.2 _ _ (by rfl)) (ft_invS mi_pq20 (by rfl)) (cy := mi_c20) mi_pq20 rfl (kc20_100 hL2.I hL2.R ) (by decide) ?_
            intro vg48 ig48 ag48 qg48 rg48 kg48 hg48
            have hGg48 := kG_call hL2 kg48 (by decide +kernel)
            first | refine ft_go mi_k21 4 203 [(6, .int vg48), (2, .int (l2_2 + 1)), (5, .int ((a2 102).getD l2_2.toNatClampNeg 0)), (4, .int ((a2 101).getD l2_2.toNatClampNeg 0)), (3, .int l3_2), (0, .ref 100), (1, .ref 24)] [.ref 100, .int ((a2 101).getD l2_2.toNatClampNeg 0), .ref 100] ig48 ag48 qg48 rg48 (by rfl) ?_ | refine ko_steps mi_in21 4 _ (203, [(6, .int vg48), (2, .int (l2_2 + 1)), (5, .int ((a2 102).getD l2_2.toNatClampNeg 0)), (4, .int ((a2 101).getD l2_2.toNatClampNeg 0)), (3, .int l3_2), (0, .ref 100), (1, .ref 24)], [.ref 100, .int ((a2 101).getD l2_2.toNatClampNeg 0), .ref 100], (0, 0), ks ig48 ag48 qg48 rg48) (by rfl) ?_
            refine ko_callI mi_k21.1 (pc := 203) (ls := [(6, .int vg48), (2, .int (l2_2 + 1)), (5, .int ((a2 102).getD l2_2.toNatClampNeg 0)), (4, .int ((a2 101).getD l2_2.toNatClampNeg 0)), (3, .int l3_2), (0, .ref 100), (1, .ref 24)]) (st := [.ref 100, .int ((a2 101).getD l2_2.toNatClampNeg 0), .ref 100]) (h := ks ig48 ag48 qg48 rg48) (i := (.invokevirtual 36, 3, 20, 0, 9, 0, 226)) (mi_k21.2 _ _ (by rfl)) (ft_invS mi_pq20 (by rfl)) (cy := mi_c20) mi_pq20 rfl (kc20_100 hGg48.I hGg48.R ) (by decide) ?_
            intro vg49 ig49 ag49 qg49 rg49 kg49 hg49
            have hGg49 := kG_call hGg48 kg49 (by decide +kernel)
            first | refine ft_go mi_k21 1 208 [(6, .int vg48), (2, .int (l2_2 + 1)), (5, .int ((a2 102).getD l2_2.toNatClampNeg 0)), (4, .int ((a2 101).getD l2_2.toNatClampNeg 0)), (3, .int l3_2), (0, .ref 100), (1, .ref 24)] [.int vg48, .int vg49, .int ((a2 101).getD l2_2.toNatClampNeg 0), .ref 100] ig49 ag49 qg49 rg49 (by rfl) ?_ | refine ko_steps mi_in21 1 _ (208, [(6, .int vg48), (2, .int (l2_2 + 1)), (5, .int ((a2 102).getD l2_2.toNatClampNeg 0)), (4, .int ((a2 101).getD l2_2.toNatClampNeg 0)), (3, .int l3_2), (0, .ref 100), (1, .ref 24)], [.int vg48, .int vg49, .int ((a2 101).getD l2_2.toNatClampNeg 0), .ref 100], (0, 0), ks ig49 ag49 qg49 rg49) (by rfl) ?_
            refine ko_callPI mi_k21.1 (pc := 208) (ls := [(6, .int vg48), (2, .int (l2_2 + 1)), (5, .int ((a2 102).getD l2_2.toNatClampNeg 0)), (4, .int ((a2 101).getD l2_2.toNatClampNeg 0)), (3, .int l3_2), (0, .ref 100), (1, .ref 24)]) (st := [.int vg48, .int vg49, .int ((a2 101).getD l2_2.toNatClampNeg 0), .ref 100]) (h := ks ig49 ag49 qg49 rg49) (i := (.invokestatic 40, 3, 22, 0, 9, 0, 227)) (mi_k21.2 _ _ (by rfl)) (ft_invS mi_pq22 (by rfl)) (cy := mi_c22) mi_pq22 rfl (kc22 hGg49.I hGg49.R ((a2 101).getD l2_2.toNatClampNeg 0) vg49 vg48) (by decide) ?_
            intro vg50 hg50
            refine ko_callN mi_k21.1 (pc := 211) (ls := [(6, .int vg48), (2, .int (l2_2 + 1)), (5, .int ((a2 102).getD l2_2.toNatClampNeg 0)), (4, .int ((a2 101).getD l2_2.toNatClampNeg 0)), (3, .int l3_2), (0, .ref 100), (1, .ref 24)]) (st := [.int vg50, .ref 100]) (h := ks ig49 ag49 qg49 rg49) (i := (.invokevirtual 32, 3, 19, 0, 9, 0, 225)) (mi_k21.2 _ _ (by rfl)) (ft_invS mi_pq19 (by rfl)) (cy := mi_c19) mi_pq19 rfl (kc19_100 hGg49.I hGg49.R vg50) (by decide) ?_
            intro ig51 ag51 qg51 rg51 kg51 hg51
            have hGg51 := kG_call hGg49 kg51 (by decide +kernel)
            have s52 : (l3_2 + 1).toInt = l3_2.toInt + (1 : Int32).toInt := kd_add (oz12 p2_0 kn1) (oz1036 c5 kn121 kn1)
            first | refine ft_go mi_k21 2 9 [(3, .int (l3_2 + 1)), (6, .int vg48), (2, .int (l2_2 + 1)), (5, .int ((a2 102).getD l2_2.toNatClampNeg 0)), (4, .int ((a2 101).getD l2_2.toNatClampNeg 0)), (0, .ref 100), (1, .ref 24)] [] ig51 ag51 qg51 rg51 (by rfl) ?_ | refine ko_steps mi_in21 2 _ (9, [(3, .int (l3_2 + 1)), (6, .int vg48), (2, .int (l2_2 + 1)), (5, .int ((a2 102).getD l2_2.toNatClampNeg 0)), (4, .int ((a2 101).getD l2_2.toNatClampNeg 0)), (0, .ref 100), (1, .ref 24)], [], (0, 0), ks ig51 ag51 qg51 rg51) (by rfl) ?_
            refine ko_perm [(3, .int (l3_2 + 1)), (2, .int (l2_2 + 1)), (0, .ref 100), (1, .ref 24)] (List.forall_mem_cons.mpr ⟨(List.Mem.head _), (List.forall_mem_cons.mpr ⟨(List.Mem.tail _ (List.Mem.tail _ (List.Mem.head _))), (List.forall_mem_cons.mpr ⟨(List.Mem.tail _ (List.Mem.tail _ (List.Mem.tail _ (List.Mem.tail _ (List.Mem.tail _ (List.Mem.head _)))))), (List.forall_mem_cons.mpr ⟨(List.Mem.tail _ (List.Mem.tail _ (List.Mem.tail _ (List.Mem.tail _ (List.Mem.tail _ (List.Mem.tail _ (List.Mem.head _))))))), (fun _ h => absurd h List.not_mem_nil)⟩)⟩)⟩)⟩) ?_
            exact ih2 _ _ _ _ _ _ hGg51 (oz14 p2_0 s52 kn1) (kj_meas (oz1037 s52 kn1) (oz1038 c5 kn121) hm2)
  exact lp2 _ _ _ _ _ _ _ (kG_self _ hJ1.I hJ1.R) (oz46 kn0) (Nat.lt_succ_self _)
def w31_1 : kW := ([645, 6405], [13, 24, 103], [], [])
set_option maxRecDepth 100000 in
theorem kc31_1 {i : Nat → Int32} {a : Nat → List Int32} {q : Nat → List Int64} {r : Nat → Nat} (hI : kI i a q) (hr : kr r) (x1 : Int32) (x2 : Int32) (hp0 : ((0 : Int) ≤ x1.toInt) ∧ (x1.toInt ≤ 7)) : km 5 31 [.ref 1, .int x1, .int x2] (ks i a q r) (kVI w31_1 i a q r (fun v i1 a1 q1 r1 => True)) := by
  have hG := kG_self w31_1 hI hr
  refine km_ofI (q := (mi_h31, mi_c31)) rfl (by decide) (Nat.le_of_ble_eq_true rfl) ?_
  intro P hP
  refine ft_go mi_k31 4 6 [(0, .ref 1), (1, .int x1), (2, .int x2)] [.int x1, .ref 3, .int 5] i a q r (by rfl) ?_
  refine ko_iald3 mi_k31.1 (n := 8) (c := 8) (ax := (0, 0, 0, 0, 0)) (mi_k31.2 _ _ (by rfl)) (by rfl) (ksG3 _ _ _ _) (hG.I.2.1 3) rfl (oz3 hp0.1) (oz1032 hp0.2) ?_
  have b1 : ((-2147483648 : Int) ≤ ((a 3).getD x1.toNatClampNeg 0).toInt) ∧ (((a 3).getD x1.toNatClampNeg 0).toInt ≤ 2147483647) := kd_bd ((a 3).getD x1.toNatClampNeg 0)
  refine ft_go mi_k31 4 13 [(0, .ref 1), (1, .int x1), (2, .int x2)] [.int x1, .ref 4, .int (5 * ((a 3).getD x1.toNatClampNeg 0))] i a q r (by rfl) ?_
  refine ko_iald3 mi_k31.1 (n := 8) (c := 8) (ax := (0, 0, 0, 0, 0)) (mi_k31.2 _ _ (by rfl)) (by rfl) (ksG4 _ _ _ _) (hG.I.2.1 4) rfl (oz3 hp0.1) (oz1032 hp0.2) ?_
  have b2 : ((-2147483648 : Int) ≤ (5 * ((a 3).getD x1.toNatClampNeg 0)).toInt) ∧ ((5 * ((a 3).getD x1.toNatClampNeg 0)).toInt ≤ 2147483647) := kd_bd (5 * ((a 3).getD x1.toNatClampNeg 0))
  have b3 : ((-2147483648 : Int) ≤ ((a 4).getD x1.toNatClampNeg 0).toInt) ∧ (((a 4).getD x1.toNatClampNeg 0).toInt ≤ 2147483647) := kd_bd ((a 4).getD x1.toNatClampNeg 0)
  refine ft_go mi_k31 5 21 [(0, .ref 1), (1, .int x1), (2, .int x2)] [.int x1, .ref 6, .int 2, .int ((5 * ((a 3).getD x1.toNatClampNeg 0)) + ((a 4).getD x1.toNatClampNeg 0))] i a q r (by rfl) ?_
  refine ko_iald3 mi_k31.1 (n := 8) (c := 8) (ax := (0, 0, 0, 0, 0)) (mi_k31.2 _ _ (by rfl)) (by rfl) (ksG6 _ _ _ _) (hG.I.2.1 6) rfl (oz3 hp0.1) (oz1032 hp0.2) ?_
  have b4 : ((-2147483648 : Int) ≤ ((a 6).getD x1.toNatClampNeg 0).toInt) ∧ (((a 6).getD x1.toNatClampNeg 0).toInt ≤ 2147483647) := kd_bd ((a 6).getD x1.toNatClampNeg 0)
  have b5 : ((-2147483648 : Int) ≤ ((5 * ((a 3).getD x1.toNatClampNeg 0)) + ((a 4).getD x1.toNatClampNeg 0)).toInt) ∧ (((5 * ((a 3).getD x1.toNatClampNeg 0)) + ((a 4).getD x1.toNatClampNeg 0)).toInt ≤ 2147483647) := kd_bd ((5 * ((a 3).getD x1.toNatClampNeg 0)) + ((a 4).getD x1.toNatClampNeg 0))
  have b6 : ((-2147483648 : Int) ≤ (2 * ((a 6).getD x1.toNatClampNeg 0)).toInt) ∧ ((2 * ((a 6).getD x1.toNatClampNeg 0)).toInt ≤ 2147483647) := kd_bd (2 * ((a 6).getD x1.toNatClampNeg 0))
  refine ft_go mi_k31 5 29 [(3, .int (((5 * ((a 3).getD x1.toNatClampNeg 0)) + ((a 4).getD x1.toNatClampNeg 0)) - (2 * ((a 6).getD x1.toNatClampNeg 0)))), (0, .ref 1), (1, .int x1), (2, .int x2)] [.ref (r 0)] i a q r (by rfl) ?_
  rcases hG.R.1 with ⟨eRr_0, eRr_2⟩ | ⟨eRr_0, eRr_2⟩
  ·
    have eRr_0 : r 0 = 10 := eRr_0
    have eRr_2 : r 2 = 100 := eRr_2
    refine ko_eq (x1 := (29, [(3, .int (((5 * ((a 3).getD x1.toNatClampNeg 0)) + ((a 4).getD x1.toNatClampNeg 0)) - (2 * ((a 6).getD x1.toNatClampNeg 0)))), (0, .ref 1), (1, .int x1), (2, .int x2)], [.ref 10], (0, 0), ks i a q r)) (by rw [eRr_0]) ?_
    have fi_640 : ((0 : Int) ≤ (i 640).toInt) ∧ ((i 640).toInt ≤ 1) := hG.I.1 640
    refine ft_go mi_k31 1 32 [(3, .int (((5 * ((a 3).getD x1.toNatClampNeg 0)) + ((a 4).getD x1.toNatClampNeg 0)) - (2 * ((a 6).getD x1.toNatClampNeg 0)))), (0, .ref 1), (1, .int x1), (2, .int x2)] [.int (i 640)] i a q r (by rfl) ?_
    refine ft_if mi_k31 ((i 640) == 0) 110 35 [(3, .int (((5 * ((a 3).getD x1.toNatClampNeg 0)) + ((a 4).getD x1.toNatClampNeg 0)) - (2 * ((a 6).getD x1.toNatClampNeg 0)))), (0, .ref 1), (1, .int x1), (2, .int x2)] [] (by rfl) (fun c => ?_) (fun c => ?_)
    ·
      have c7 : (i 640).toInt = (0 : Int32).toInt := kd_eq c; clear c
      refine ft_go mi_k31 3 114 [(3, .int (((5 * ((a 3).getD x1.toNatClampNeg 0)) + ((a 4).getD x1.toNatClampNeg 0)) - (2 * ((a 6).getD x1.toNatClampNeg 0)))), (0, .ref 1), (1, .int x1), (2, .int x2)] [.int (((5 * ((a 3).getD x1.toNatClampNeg 0)) + ((a 4).getD x1.toNatClampNeg 0)) - (2 * ((a 6).getD x1.toNatClampNeg 0))), .int 99, .int 0] i a q r (by rfl) ?_
      have m9 : (((bif decide ((((5 * ((a 3).getD x1.toNatClampNeg 0)) + ((a 4).getD x1.toNatClampNeg 0)) - (2 * ((a 6).getD x1.toNatClampNeg 0))) < 99) then (((5 * ((a 3).getD x1.toNatClampNeg 0)) + ((a 4).getD x1.toNatClampNeg 0)) - (2 * ((a 6).getD x1.toNatClampNeg 0))) else 99).toInt ≤ (99 : Int32).toInt) ∧ ((bif decide ((((5 * ((a 3).getD x1.toNatClampNeg 0)) + ((a 4).getD x1.toNatClampNeg 0)) - (2 * ((a 6).getD x1.toNatClampNeg 0))) < 99) then (((5 * ((a 3).getD x1.toNatClampNeg 0)) + ((a 4).getD x1.toNatClampNeg 0)) - (2 * ((a 6).getD x1.toNatClampNeg 0))) else 99).toInt ≤ (((5 * ((a 3).getD x1.toNatClampNeg 0)) + ((a 4).getD x1.toNatClampNeg 0)) - (2 * ((a 6).getD x1.toNatClampNeg 0))).toInt)) ∧ ((bif decide ((((5 * ((a 3).getD x1.toNatClampNeg 0)) + ((a 4).getD x1.toNatClampNeg 0)) - (2 * ((a 6).getD x1.toNatClampNeg 0))) < 99) then (((5 * ((a 3).getD x1.toNatClampNeg 0)) + ((a 4).getD x1.toNatClampNeg 0)) - (2 * ((a 6).getD x1.toNatClampNeg 0))) else 99).toInt = (99 : Int32).toInt ∨ (bif decide ((((5 * ((a 3).getD x1.toNatClampNeg 0)) + ((a 4).getD x1.toNatClampNeg 0)) - (2 * ((a 6).getD x1.toNatClampNeg 0))) < 99) then (((5 * ((a 3).getD x1.toNatClampNeg 0)) + ((a 4).getD x1.toNatClampNeg 0)) - (2 * ((a 6).getD x1.toNatClampNeg 0))) else 99).toInt = (((5 * ((a 3).getD x1.toNatClampNeg 0)) + ((a 4).getD x1.toNatClampNeg 0)) - (2 * ((a 6).getD x1.toNatClampNeg 0))).toInt) := kd_min
      refine ft_go mi_k31 1 117 [(3, .int (((5 * ((a 3).getD x1.toNatClampNeg 0)) + ((a 4).getD x1.toNatClampNeg 0)) - (2 * ((a 6).getD x1.toNatClampNeg 0)))), (0, .ref 1), (1, .int x1), (2, .int x2)] [.int (bif decide ((((5 * ((a 3).getD x1.toNatClampNeg 0)) + ((a 4).getD x1.toNatClampNeg 0)) - (2 * ((a 6).getD x1.toNatClampNeg 0))) < 99) then (((5 * ((a 3).getD x1.toNatClampNeg 0)) + ((a 4).getD x1.toNatClampNeg 0)) - (2 * ((a 6).getD x1.toNatClampNeg 0))) else 99), .int 0] i a q r (by rfl) ?_
      generalize (bif decide ((((5 * ((a 3).getD x1.toNatClampNeg 0)) + ((a 4).getD x1.toNatClampNeg 0)) - (2 * ((a 6).getD x1.toNatClampNeg 0))) < 99) then (((5 * ((a 3).getD x1.toNatClampNeg 0)) + ((a 4).getD x1.toNatClampNeg 0)) - (2 * ((a 6).getD x1.toNatClampNeg 0))) else 99) = m8 at m9 ⊢
      have m11 : (((0 : Int32).toInt ≤ (bif decide (0 < m8) then m8 else 0).toInt) ∧ (m8.toInt ≤ (bif decide (0 < m8) then m8 else 0).toInt)) ∧ ((bif decide (0 < m8) then m8 else 0).toInt = (0 : Int32).toInt ∨ (bif decide (0 < m8) then m8 else 0).toInt = m8.toInt) := kd_max
      refine ft_go mi_k31 1 120 [(3, .int (((5 * ((a 3).getD x1.toNatClampNeg 0)) + ((a 4).getD x1.toNatClampNeg 0)) - (2 * ((a 6).getD x1.toNatClampNeg 0)))), (0, .ref 1), (1, .int x1), (2, .int x2)] [.int (bif decide (0 < m8) then m8 else 0)] i a q r (by rfl) ?_
      generalize (bif decide (0 < m8) then m8 else 0) = m10 at m11 ⊢
      exact ft_ret mi_k31 (by rfl) (hP m10 _ _ _ _ hG trivial)
    ·
      have c12 : (i 640).toInt ≠ (0 : Int32).toInt := kd_eqF c; clear c
      refine ft_go mi_k31 6 45 [(3, .int (((5 * ((a 3).getD x1.toNatClampNeg 0)) + ((a 4).getD x1.toNatClampNeg 0)) - (2 * ((a 6).getD x1.toNatClampNeg 0)))), (0, .ref 1), (1, .int x1), (2, .int x2)] [.int x1, .ref 3, .int 0, .ref 24] i a q r (by rfl) ?_
      refine ko_iald3 mi_k31.1 (n := 8) (c := 8) (ax := (0, 0, 0, 0, 0)) (mi_k31.2 _ _ (by rfl)) (by rfl) (ksG3 _ _ _ _) (hG.I.2.1 3) rfl (oz3 hp0.1) (oz1032 hp0.2) ?_
      refine ko_iast3 mi_k31.1 (n := 6) (c := 6) (ax := (0, 0, 0, 0, 0)) (mi_k31.2 _ _ (by rfl)) (by rfl) (ksG24 _ _ _ _) (ksA24 _ _ _ _) (hG.I.2.1 24) rfl (oz46 kn0) (oz255 kn0) ?_
      intro a13 ea13 fa13
      have hJ13 := kG_a3 hG 24 rfl ea13 fa13 (kd_bd _)
      refine ft_go mi_k31 4 53 [(3, .int (((5 * ((a 3).getD x1.toNatClampNeg 0)) + ((a 4).getD x1.toNatClampNeg 0)) - (2 * ((a 6).getD x1.toNatClampNeg 0)))), (0, .ref 1), (1, .int x1), (2, .int x2)] [.int x2, .int 1, .ref 24] i a13 q r (by rfl) ?_
      refine ko_iast3 mi_k31.1 (n := 6) (c := 6) (ax := (0, 0, 0, 0, 0)) (mi_k31.2 _ _ (by rfl)) (by rfl) (ksG24 _ _ _ _) (ksA24 _ _ _ _) (hJ13.I.2.1 24) rfl (oz246 kn1) (oz247 kn1) ?_
      intro a14 ea14 fa14
      have hJ14 := kG_a3 hJ13 24 rfl ea14 fa14 (kd_bd _)
      refine ft_go mi_k31 6 64 [(3, .int (((5 * ((a 3).getD x1.toNatClampNeg 0)) + ((a 4).getD x1.toNatClampNeg 0)) - (2 * ((a 6).getD x1.toNatClampNeg 0)))), (0, .ref 1), (1, .int x1), (2, .int x2)] [.int x1, .ref 4, .int 2, .ref 24] i a14 q r (by rfl) ?_
      refine ko_iald3 mi_k31.1 (n := 8) (c := 8) (ax := (0, 0, 0, 0, 0)) (mi_k31.2 _ _ (by rfl)) (by rfl) (ksG4 _ _ _ _) (hJ14.I.2.1 4) rfl (oz3 hp0.1) (oz1032 hp0.2) ?_
      refine ko_iast3 mi_k31.1 (n := 6) (c := 6) (ax := (0, 0, 0, 0, 0)) (mi_k31.2 _ _ (by rfl)) (by rfl) (ksG24 _ _ _ _) (ksA24 _ _ _ _) (hJ14.I.2.1 24) rfl (oz256 kn2) (oz257 kn2) ?_
      intro a15 ea15 fa15
      have hJ15 := kG_a3 hJ14 24 rfl ea15 fa15 (kd_bd _)
      refine ft_go mi_k31 5 75 [(3, .int (((5 * ((a 3).getD x1.toNatClampNeg 0)) + ((a 4).getD x1.toNatClampNeg 0)) - (2 * ((a 6).getD x1.toNatClampNeg 0)))), (0, .ref 1), (1, .int x1), (2, .int x2)] [.int (i 73), .int 3, .ref 24] i a15 q r (by rfl) ?_
      refine ko_iast3 mi_k31.1 (n := 6) (c := 6) (ax := (0, 0, 0, 0, 0)) (mi_k31.2 _ _ (by rfl)) (by rfl) (ksG24 _ _ _ _) (ksA24 _ _ _ _) (hJ15.I.2.1 24) rfl (oz260 kn3) (oz261 kn3) ?_
      intro a16 ea16 fa16
      have hJ16 := kG_a3 hJ15 24 rfl ea16 fa16 (kd_bd _)
      refine ft_go mi_k31 6 86 [(3, .int (((5 * ((a 3).getD x1.toNatClampNeg 0)) + ((a 4).getD x1.toNatClampNeg 0)) - (2 * ((a 6).getD x1.toNatClampNeg 0)))), (0, .ref 1), (1, .int x1), (2, .int x2)] [.int x1, .ref 6, .int 4, .ref 24] i a16 q r (by rfl) ?_
      refine ko_iald3 mi_k31.1 (n := 8) (c := 8) (ax := (0, 0, 0, 0, 0)) (mi_k31.2 _ _ (by rfl)) (by rfl) (ksG6 _ _ _ _) (hJ16.I.2.1 6) rfl (oz3 hp0.1) (oz1032 hp0.2) ?_
      refine ko_iast3 mi_k31.1 (n := 6) (c := 6) (ax := (0, 0, 0, 0, 0)) (mi_k31.2 _ _ (by rfl)) (by rfl) (ksG24 _ _ _ _) (ksA24 _ _ _ _) (hJ16.I.2.1 24) rfl (oz262 kn4) (oz263 kn4) ?_
      intro a17 ea17 fa17
      have hJ17 := kG_a3 hJ16 24 rfl ea17 fa17 (kd_bd _)
      refine ft_go mi_k31 5 97 [(3, .int (((5 * ((a 3).getD x1.toNatClampNeg 0)) + ((a 4).getD x1.toNatClampNeg 0)) - (2 * ((a 6).getD x1.toNatClampNeg 0)))), (0, .ref 1), (1, .int x1), (2, .int x2)] [.int (i 72), .int 5, .ref 24] i a17 q r (by rfl) ?_
      refine ko_iast3 mi_k31.1 (n := 6) (c := 6) (ax := (0, 0, 0, 0, 0)) (mi_k31.2 _ _ (by rfl)) (by rfl) (ksG24 _ _ _ _) (ksA24 _ _ _ _) (hJ17.I.2.1 24) rfl (oz264 kn5) (oz265 kn5) ?_
      intro a18 ea18 fa18
      have hJ18 := kG_a3 hJ17 24 rfl ea18 fa18 (kd_bd _)
      refine ft_go mi_k31 2 102 [(3, .int (((5 * ((a 3).getD x1.toNatClampNeg 0)) + ((a 4).getD x1.toNatClampNeg 0)) - (2 * ((a 6).getD x1.toNatClampNeg 0)))), (0, .ref 1), (1, .int x1), (2, .int x2)] [.ref (r 0)] i a18 q r (by rfl) ?_
      refine ko_eq (x1 := (102, [(3, .int (((5 * ((a 3).getD x1.toNatClampNeg 0)) + ((a 4).getD x1.toNatClampNeg 0)) - (2 * ((a 6).getD x1.toNatClampNeg 0)))), (0, .ref 1), (1, .int x1), (2, .int x2)], [.ref 10], (0, 0), ks i a18 q r)) (by rw [eRr_0]) ?_
      refine ft_go mi_k31 2 106 [(3, .int (((5 * ((a 3).getD x1.toNatClampNeg 0)) + ((a 4).getD x1.toNatClampNeg 0)) - (2 * ((a 6).getD x1.toNatClampNeg 0)))), (0, .ref 1), (1, .int x1), (2, .int x2)] [.ref 24, .ref 10] i a18 q r (by rfl) ?_
      refine ko_callI mi_k31.1 (pc := 106) (ls := [(3, .int (((5 * ((a 3).getD x1.toNatClampNeg 0)) + ((a 4).getD x1.toNatClampNeg 0)) - (2 * ((a 6).getD x1.toNatClampNeg 0)))), (0, .ref 1), (1, .int x1), (2, .int x2)]) (st := [.ref 24, .ref 10]) (h := ks i a18 q r) (i := (.invokevirtual 126, 3, 21, 0, 9, 0, 224)) (mi_k31.2 _ _ (by rfl)) (ft_invS mi_pq21 (by rfl)) (cy := mi_c21) mi_pq21 rfl (kc21_10_24 hJ18.I hJ18.R ) (by decide) ?_
      intro vg19 ig19 ag19 qg19 rg19 kg19 hg19
      have hGg19 := kG_call hJ18 kg19 (by decide +kernel)
      have eRrg19_0 : rg19 0 = 10 := (kg19.fr 0 rfl).trans eRr_0
      have eRrg19_2 : rg19 2 = 100 := (kg19.fr 2 rfl).trans eRr_2
      refine ft_go mi_k31 4 114 [(3, .int vg19), (0, .ref 1), (1, .int x1), (2, .int x2)] [.int vg19, .int 99, .int 0] ig19 ag19 qg19 rg19 (by rfl) ?_
      have m21 : (((bif decide (vg19 < 99) then vg19 else 99).toInt ≤ (99 : Int32).toInt) ∧ ((bif decide (vg19 < 99) then vg19 else 99).toInt ≤ vg19.toInt)) ∧ ((bif decide (vg19 < 99) then vg19 else 99).toInt = (99 : Int32).toInt ∨ (bif decide (vg19 < 99) then vg19 else 99).toInt = vg19.toInt) := kd_min
      refine ft_go mi_k31 1 117 [(3, .int vg19), (0, .ref 1), (1, .int x1), (2, .int x2)] [.int (bif decide (vg19 < 99) then vg19 else 99), .int 0] ig19 ag19 qg19 rg19 (by rfl) ?_
      generalize (bif decide (vg19 < 99) then vg19 else 99) = m20 at m21 ⊢
      have m23 : (((0 : Int32).toInt ≤ (bif decide (0 < m20) then m20 else 0).toInt) ∧ (m20.toInt ≤ (bif decide (0 < m20) then m20 else 0).toInt)) ∧ ((bif decide (0 < m20) then m20 else 0).toInt = (0 : Int32).toInt ∨ (bif decide (0 < m20) then m20 else 0).toInt = m20.toInt) := kd_max
      refine ft_go mi_k31 1 120 [(3, .int vg19), (0, .ref 1), (1, .int x1), (2, .int x2)] [.int (bif decide (0 < m20) then m20 else 0)] ig19 ag19 qg19 rg19 (by rfl) ?_
      generalize (bif decide (0 < m20) then m20 else 0) = m22 at m23 ⊢
      exact ft_ret mi_k31 (by rfl) (hP m22 _ _ _ _ hGg19 trivial)
  ·
    have eRr_0 : r 0 = 100 := eRr_0
    have eRr_2 : r 2 = 10 := eRr_2
    refine ko_eq (x1 := (29, [(3, .int (((5 * ((a 3).getD x1.toNatClampNeg 0)) + ((a 4).getD x1.toNatClampNeg 0)) - (2 * ((a 6).getD x1.toNatClampNeg 0)))), (0, .ref 1), (1, .int x1), (2, .int x2)], [.ref 100], (0, 0), ks i a q r)) (by rw [eRr_0]) ?_
    have fi_6400 : ((0 : Int) ≤ (i 6400).toInt) ∧ ((i 6400).toInt ≤ 1) := hG.I.1 6400
    refine ft_go mi_k31 1 32 [(3, .int (((5 * ((a 3).getD x1.toNatClampNeg 0)) + ((a 4).getD x1.toNatClampNeg 0)) - (2 * ((a 6).getD x1.toNatClampNeg 0)))), (0, .ref 1), (1, .int x1), (2, .int x2)] [.int (i 6400)] i a q r (by rfl) ?_
    refine ft_if mi_k31 ((i 6400) == 0) 110 35 [(3, .int (((5 * ((a 3).getD x1.toNatClampNeg 0)) + ((a 4).getD x1.toNatClampNeg 0)) - (2 * ((a 6).getD x1.toNatClampNeg 0)))), (0, .ref 1), (1, .int x1), (2, .int x2)] [] (by rfl) (fun c => ?_) (fun c => ?_)
    ·
      have c24 : (i 6400).toInt = (0 : Int32).toInt := kd_eq c; clear c
      refine ft_go mi_k31 3 114 [(3, .int (((5 * ((a 3).getD x1.toNatClampNeg 0)) + ((a 4).getD x1.toNatClampNeg 0)) - (2 * ((a 6).getD x1.toNatClampNeg 0)))), (0, .ref 1), (1, .int x1), (2, .int x2)] [.int (((5 * ((a 3).getD x1.toNatClampNeg 0)) + ((a 4).getD x1.toNatClampNeg 0)) - (2 * ((a 6).getD x1.toNatClampNeg 0))), .int 99, .int 0] i a q r (by rfl) ?_
      have m26 : (((bif decide ((((5 * ((a 3).getD x1.toNatClampNeg 0)) + ((a 4).getD x1.toNatClampNeg 0)) - (2 * ((a 6).getD x1.toNatClampNeg 0))) < 99) then (((5 * ((a 3).getD x1.toNatClampNeg 0)) + ((a 4).getD x1.toNatClampNeg 0)) - (2 * ((a 6).getD x1.toNatClampNeg 0))) else 99).toInt ≤ (99 : Int32).toInt) ∧ ((bif decide ((((5 * ((a 3).getD x1.toNatClampNeg 0)) + ((a 4).getD x1.toNatClampNeg 0)) - (2 * ((a 6).getD x1.toNatClampNeg 0))) < 99) then (((5 * ((a 3).getD x1.toNatClampNeg 0)) + ((a 4).getD x1.toNatClampNeg 0)) - (2 * ((a 6).getD x1.toNatClampNeg 0))) else 99).toInt ≤ (((5 * ((a 3).getD x1.toNatClampNeg 0)) + ((a 4).getD x1.toNatClampNeg 0)) - (2 * ((a 6).getD x1.toNatClampNeg 0))).toInt)) ∧ ((bif decide ((((5 * ((a 3).getD x1.toNatClampNeg 0)) + ((a 4).getD x1.toNatClampNeg 0)) - (2 * ((a 6).getD x1.toNatClampNeg 0))) < 99) then (((5 * ((a 3).getD x1.toNatClampNeg 0)) + ((a 4).getD x1.toNatClampNeg 0)) - (2 * ((a 6).getD x1.toNatClampNeg 0))) else 99).toInt = (99 : Int32).toInt ∨ (bif decide ((((5 * ((a 3).getD x1.toNatClampNeg 0)) + ((a 4).getD x1.toNatClampNeg 0)) - (2 * ((a 6).getD x1.toNatClampNeg 0))) < 99) then (((5 * ((a 3).getD x1.toNatClampNeg 0)) + ((a 4).getD x1.toNatClampNeg 0)) - (2 * ((a 6).getD x1.toNatClampNeg 0))) else 99).toInt = (((5 * ((a 3).getD x1.toNatClampNeg 0)) + ((a 4).getD x1.toNatClampNeg 0)) - (2 * ((a 6).getD x1.toNatClampNeg 0))).toInt) := kd_min
      refine ft_go mi_k31 1 117 [(3, .int (((5 * ((a 3).getD x1.toNatClampNeg 0)) + ((a 4).getD x1.toNatClampNeg 0)) - (2 * ((a 6).getD x1.toNatClampNeg 0)))), (0, .ref 1), (1, .int x1), (2, .int x2)] [.int (bif decide ((((5 * ((a 3).getD x1.toNatClampNeg 0)) + ((a 4).getD x1.toNatClampNeg 0)) - (2 * ((a 6).getD x1.toNatClampNeg 0))) < 99) then (((5 * ((a 3).getD x1.toNatClampNeg 0)) + ((a 4).getD x1.toNatClampNeg 0)) - (2 * ((a 6).getD x1.toNatClampNeg 0))) else 99), .int 0] i a q r (by rfl) ?_
      generalize (bif decide ((((5 * ((a 3).getD x1.toNatClampNeg 0)) + ((a 4).getD x1.toNatClampNeg 0)) - (2 * ((a 6).getD x1.toNatClampNeg 0))) < 99) then (((5 * ((a 3).getD x1.toNatClampNeg 0)) + ((a 4).getD x1.toNatClampNeg 0)) - (2 * ((a 6).getD x1.toNatClampNeg 0))) else 99) = m25 at m26 ⊢
      have m28 : (((0 : Int32).toInt ≤ (bif decide (0 < m25) then m25 else 0).toInt) ∧ (m25.toInt ≤ (bif decide (0 < m25) then m25 else 0).toInt)) ∧ ((bif decide (0 < m25) then m25 else 0).toInt = (0 : Int32).toInt ∨ (bif decide (0 < m25) then m25 else 0).toInt = m25.toInt) := kd_max
      refine ft_go mi_k31 1 120 [(3, .int (((5 * ((a 3).getD x1.toNatClampNeg 0)) + ((a 4).getD x1.toNatClampNeg 0)) - (2 * ((a 6).getD x1.toNatClampNeg 0)))), (0, .ref 1), (1, .int x1), (2, .int x2)] [.int (bif decide (0 < m25) then m25 else 0)] i a q r (by rfl) ?_
      generalize (bif decide (0 < m25) then m25 else 0) = m27 at m28 ⊢
      exact ft_ret mi_k31 (by rfl) (hP m27 _ _ _ _ hG trivial)
    ·
      have c29 : (i 6400).toInt ≠ (0 : Int32).toInt := kd_eqF c; clear c
      refine ft_go mi_k31 6 45 [(3, .int (((5 * ((a 3).getD x1.toNatClampNeg 0)) + ((a 4).getD x1.toNatClampNeg 0)) - (2 * ((a 6).getD x1.toNatClampNeg 0)))), (0, .ref 1), (1, .int x1), (2, .int x2)] [.int x1, .ref 3, .int 0, .ref 24] i a q r (by rfl) ?_
      refine ko_iald3 mi_k31.1 (n := 8) (c := 8) (ax := (0, 0, 0, 0, 0)) (mi_k31.2 _ _ (by rfl)) (by rfl) (ksG3 _ _ _ _) (hG.I.2.1 3) rfl (oz3 hp0.1) (oz1032 hp0.2) ?_
      refine ko_iast3 mi_k31.1 (n := 6) (c := 6) (ax := (0, 0, 0, 0, 0)) (mi_k31.2 _ _ (by rfl)) (by rfl) (ksG24 _ _ _ _) (ksA24 _ _ _ _) (hG.I.2.1 24) rfl (oz46 kn0) (oz255 kn0) ?_
      intro a30 ea30 fa30
      have hJ30 := kG_a3 hG 24 rfl ea30 fa30 (kd_bd _)
      refine ft_go mi_k31 4 53 [(3, .int (((5 * ((a 3).getD x1.toNatClampNeg 0)) + ((a 4).getD x1.toNatClampNeg 0)) - (2 * ((a 6).getD x1.toNatClampNeg 0)))), (0, .ref 1), (1, .int x1), (2, .int x2)] [.int x2, .int 1, .ref 24] i a30 q r (by rfl) ?_
      refine ko_iast3 mi_k31.1 (n := 6) (c := 6) (ax := (0, 0, 0, 0, 0)) (mi_k31.2 _ _ (by rfl)) (by rfl) (ksG24 _ _ _ _) (ksA24 _ _ _ _) (hJ30.I.2.1 24) rfl (oz246 kn1) (oz247 kn1) ?_
      intro a31 ea31 fa31
      have hJ31 := kG_a3 hJ30 24 rfl ea31 fa31 (kd_bd _)
      refine ft_go mi_k31 6 64 [(3, .int (((5 * ((a 3).getD x1.toNatClampNeg 0)) + ((a 4).getD x1.toNatClampNeg 0)) - (2 * ((a 6).getD x1.toNatClampNeg 0)))), (0, .ref 1), (1, .int x1), (2, .int x2)] [.int x1, .ref 4, .int 2, .ref 24] i a31 q r (by rfl) ?_
      refine ko_iald3 mi_k31.1 (n := 8) (c := 8) (ax := (0, 0, 0, 0, 0)) (mi_k31.2 _ _ (by rfl)) (by rfl) (ksG4 _ _ _ _) (hJ31.I.2.1 4) rfl (oz3 hp0.1) (oz1032 hp0.2) ?_
      refine ko_iast3 mi_k31.1 (n := 6) (c := 6) (ax := (0, 0, 0, 0, 0)) (mi_k31.2 _ _ (by rfl)) (by rfl) (ksG24 _ _ _ _) (ksA24 _ _ _ _) (hJ31.I.2.1 24) rfl (oz256 kn2) (oz257 kn2) ?_
      intro a32 ea32 fa32
      have hJ32 := kG_a3 hJ31 24 rfl ea32 fa32 (kd_bd _)
      refine ft_go mi_k31 5 75 [(3, .int (((5 * ((a 3).getD x1.toNatClampNeg 0)) + ((a 4).getD x1.toNatClampNeg 0)) - (2 * ((a 6).getD x1.toNatClampNeg 0)))), (0, .ref 1), (1, .int x1), (2, .int x2)] [.int (i 73), .int 3, .ref 24] i a32 q r (by rfl) ?_
      refine ko_iast3 mi_k31.1 (n := 6) (c := 6) (ax := (0, 0, 0, 0, 0)) (mi_k31.2 _ _ (by rfl)) (by rfl) (ksG24 _ _ _ _) (ksA24 _ _ _ _) (hJ32.I.2.1 24) rfl (oz260 kn3) (oz261 kn3) ?_
      intro a33 ea33 fa33
      have hJ33 := kG_a3 hJ32 24 rfl ea33 fa33 (kd_bd _)
      refine ft_go mi_k31 6 86 [(3, .int (((5 * ((a 3).getD x1.toNatClampNeg 0)) + ((a 4).getD x1.toNatClampNeg 0)) - (2 * ((a 6).getD x1.toNatClampNeg 0)))), (0, .ref 1), (1, .int x1), (2, .int x2)] [.int x1, .ref 6, .int 4, .ref 24] i a33 q r (by rfl) ?_
      refine ko_iald3 mi_k31.1 (n := 8) (c := 8) (ax := (0, 0, 0, 0, 0)) (mi_k31.2 _ _ (by rfl)) (by rfl) (ksG6 _ _ _ _) (hJ33.I.2.1 6) rfl (oz3 hp0.1) (oz1032 hp0.2) ?_
      refine ko_iast3 mi_k31.1 (n := 6) (c := 6) (ax := (0, 0, 0, 0, 0)) (mi_k31.2 _ _ (by rfl)) (by rfl) (ksG24 _ _ _ _) (ksA24 _ _ _ _) (hJ33.I.2.1 24) rfl (oz262 kn4) (oz263 kn4) ?_
      intro a34 ea34 fa34
      have hJ34 := kG_a3 hJ33 24 rfl ea34 fa34 (kd_bd _)
      refine ft_go mi_k31 5 97 [(3, .int (((5 * ((a 3).getD x1.toNatClampNeg 0)) + ((a 4).getD x1.toNatClampNeg 0)) - (2 * ((a 6).getD x1.toNatClampNeg 0)))), (0, .ref 1), (1, .int x1), (2, .int x2)] [.int (i 72), .int 5, .ref 24] i a34 q r (by rfl) ?_
      refine ko_iast3 mi_k31.1 (n := 6) (c := 6) (ax := (0, 0, 0, 0, 0)) (mi_k31.2 _ _ (by rfl)) (by rfl) (ksG24 _ _ _ _) (ksA24 _ _ _ _) (hJ34.I.2.1 24) rfl (oz264 kn5) (oz265 kn5) ?_
      intro a35 ea35 fa35
      have hJ35 := kG_a3 hJ34 24 rfl ea35 fa35 (kd_bd _)
      refine ft_go mi_k31 2 102 [(3, .int (((5 * ((a 3).getD x1.toNatClampNeg 0)) + ((a 4).getD x1.toNatClampNeg 0)) - (2 * ((a 6).getD x1.toNatClampNeg 0)))), (0, .ref 1), (1, .int x1), (2, .int x2)] [.ref (r 0)] i a35 q r (by rfl) ?_
      refine ko_eq (x1 := (102, [(3, .int (((5 * ((a 3).getD x1.toNatClampNeg 0)) + ((a 4).getD x1.toNatClampNeg 0)) - (2 * ((a 6).getD x1.toNatClampNeg 0)))), (0, .ref 1), (1, .int x1), (2, .int x2)], [.ref 100], (0, 0), ks i a35 q r)) (by rw [eRr_0]) ?_
      refine ft_go mi_k31 2 106 [(3, .int (((5 * ((a 3).getD x1.toNatClampNeg 0)) + ((a 4).getD x1.toNatClampNeg 0)) - (2 * ((a 6).getD x1.toNatClampNeg 0)))), (0, .ref 1), (1, .int x1), (2, .int x2)] [.ref 24, .ref 100] i a35 q r (by rfl) ?_
      refine ko_callI mi_k31.1 (pc := 106) (ls := [(3, .int (((5 * ((a 3).getD x1.toNatClampNeg 0)) + ((a 4).getD x1.toNatClampNeg 0)) - (2 * ((a 6).getD x1.toNatClampNeg 0)))), (0, .ref 1), (1, .int x1), (2, .int x2)]) (st := [.ref 24, .ref 100]) (h := ks i a35 q r) (i := (.invokevirtual 126, 3, 21, 0, 9, 0, 224)) (mi_k31.2 _ _ (by rfl)) (ft_invS mi_pq21 (by rfl)) (cy := mi_c21) mi_pq21 rfl (kc21_100_24 hJ35.I hJ35.R ) (by decide) ?_
      intro vg36 ig36 ag36 qg36 rg36 kg36 hg36
      have hGg36 := kG_call hJ35 kg36 (by decide +kernel)
      have eRrg36_0 : rg36 0 = 100 := (kg36.fr 0 rfl).trans eRr_0
      have eRrg36_2 : rg36 2 = 10 := (kg36.fr 2 rfl).trans eRr_2
      refine ft_go mi_k31 4 114 [(3, .int vg36), (0, .ref 1), (1, .int x1), (2, .int x2)] [.int vg36, .int 99, .int 0] ig36 ag36 qg36 rg36 (by rfl) ?_
      have m38 : (((bif decide (vg36 < 99) then vg36 else 99).toInt ≤ (99 : Int32).toInt) ∧ ((bif decide (vg36 < 99) then vg36 else 99).toInt ≤ vg36.toInt)) ∧ ((bif decide (vg36 < 99) then vg36 else 99).toInt = (99 : Int32).toInt ∨ (bif decide (vg36 < 99) then vg36 else 99).toInt = vg36.toInt) := kd_min
      refine ft_go mi_k31 1 117 [(3, .int vg36), (0, .ref 1), (1, .int x1), (2, .int x2)] [.int (bif decide (vg36 < 99) then vg36 else 99), .int 0] ig36 ag36 qg36 rg36 (by rfl) ?_
      generalize (bif decide (vg36 < 99) then vg36 else 99) = m37 at m38 ⊢
      have m40 : (((0 : Int32).toInt ≤ (bif decide (0 < m37) then m37 else 0).toInt) ∧ (m37.toInt ≤ (bif decide (0 < m37) then m37 else 0).toInt)) ∧ ((bif decide (0 < m37) then m37 else 0).toInt = (0 : Int32).toInt ∨ (bif decide (0 < m37) then m37 else 0).toInt = m37.toInt) := kd_max
      refine ft_go mi_k31 1 120 [(3, .int vg36), (0, .ref 1), (1, .int x1), (2, .int x2)] [.int (bif decide (0 < m37) then m37 else 0)] ig36 ag36 qg36 rg36 (by rfl) ?_
      generalize (bif decide (0 < m37) then m37 else 0) = m39 at m40 ⊢
      exact ft_ret mi_k31 (by rfl) (hP m39 _ _ _ _ hGg36 trivial)
def w1_7 : kW := ([450], [8, 9], [], [])
set_option maxRecDepth 100000 in
theorem kc1_7 {i : Nat → Int32} {a : Nat → List Int32} {q : Nat → List Int64} {r : Nat → Nat} (hI : kI i a q) (hr : kr r) (x1 : Int32) (x2 : Int32) : km 1 1 [.ref 7, .int x1, .int x2] (ks i a q r) (kVN w1_7 i a q r (fun i1 a1 q1 r1 => True)) := by
  have hG := kG_self w1_7 hI hr
  refine km_ofN (q := (mi_h1, mi_c1)) rfl (by decide) (Nat.le_of_ble_eq_true rfl) ?_
  intro P hP
  have fi_450 : ((0 : Int) ≤ (i 450).toInt) ∧ ((i 450).toInt ≤ 5) := hG.I.1 450
  refine ft_go mi_k1 3 5 [(0, .ref 7), (1, .int x1), (2, .int x2)] [.int 5, .int (i 450)] i a q r (by rfl) ?_
  refine ft_if mi_k1 (decide (5 ≤ (i 450))) 38 8 [(0, .ref 7), (1, .int x1), (2, .int x2)] [] (by rfl) (fun c => ?_) (fun c => ?_)
  ·
    have c1 : (5 : Int32).toInt ≤ (i 450).toInt := kd_le c; clear c
    exact ft_ret mi_k1 (by rfl) (hP  _ _ _ _ hG trivial)
  ·
    have c2 : (i 450).toInt < (5 : Int32).toInt := kd_leF c; clear c
    refine ft_go mi_k1 5 17 [(0, .ref 7), (1, .int x1), (2, .int x2)] [.int x1, .int (i 450), .ref 8] i a q r (by rfl) ?_
    refine ko_iast3 mi_k1.1 (n := 5) (c := 5) (ax := (0, 0, 0, 0, 0)) (mi_k1.2 _ _ (by rfl)) (by rfl) (ksG8 _ _ _ _) (ksA8 _ _ _ _) (hG.I.2.1 8) rfl (oz3 fi_450.1) (oz560 c2 kn5) ?_
    intro a3 ea3 fa3
    have hJ3 := kG_a3 hG 8 rfl ea3 fa3 (kd_bd _)
    refine ft_go mi_k1 5 27 [(0, .ref 7), (1, .int x1), (2, .int x2)] [.int x2, .int (i 450), .ref 9] i a3 q r (by rfl) ?_
    refine ko_iast3 mi_k1.1 (n := 5) (c := 5) (ax := (0, 0, 0, 0, 0)) (mi_k1.2 _ _ (by rfl)) (by rfl) (ksG9 _ _ _ _) (ksA9 _ _ _ _) (hJ3.I.2.1 9) rfl (oz3 fi_450.1) (oz560 c2 kn5) ?_
    intro a4 ea4 fa4
    have hJ4 := kG_a3 hJ3 9 rfl ea4 fa4 (kd_bd _)
    have s5 : ((i 450) + 1).toInt = (i 450).toInt + (1 : Int32).toInt := kd_add (oz12 fi_450.1 kn1) (oz323 fi_450.2 kn1)
    have hJ6 := kG_i hJ4 450 rfl (v := ((i 450) + 1)) ⟨(oz14 fi_450.1 s5 kn1), (oz1044 c2 s5 kn5 kn1)⟩
    refine ft_go mi_k1 6 38 [(0, .ref 7), (1, .int x1), (2, .int x2)] [] (ku i 450 ((i 450) + 1)) a4 q r (by rfl) ?_
    exact ft_ret mi_k1 (by rfl) (hP  _ _ _ _ hJ6 trivial)
def w2_7 : kW := ([450], [8, 9], [], [])
set_option maxRecDepth 100000 in
theorem kc2_7 {i : Nat → Int32} {a : Nat → List Int32} {q : Nat → List Int64} {r : Nat → Nat} (hI : kI i a q) (hr : kr r)  : km 1 2 [.ref 7] (ks i a q r) (kVN w2_7 i a q r (fun i1 a1 q1 r1 => True)) := by
  have hG := kG_self w2_7 hI hr
  refine km_ofN (q := (mi_h2, mi_c2)) rfl (by decide) (Nat.le_of_ble_eq_true rfl) ?_
  intro P hP
  have fi_450 : ((0 : Int) ≤ (i 450).toInt) ∧ ((i 450).toInt ≤ 5) := hG.I.1 450
  refine ft_go mi_k2 2 4 [(0, .ref 7)] [.int (i 450)] i a q r (by rfl) ?_
  refine ft_if mi_k2 (decide ((i 450) ≤ 0)) 51 7 [(0, .ref 7)] [] (by rfl) (fun c => ?_) (fun c => ?_)
  ·
    have c1 : (i 450).toInt ≤ (0 : Int32).toInt := kd_le c; clear c
    exact ft_ret mi_k2 (by rfl) (hP  _ _ _ _ hG trivial)
  ·
    have c2 : (0 : Int32).toInt < (i 450).toInt := kd_leF c; clear c
    have s3 : ((i 450) - 1).toInt = (i 450).toInt - (1 : Int32).toInt := kd_sub (oz1040 c2 kn0 kn1) (oz342 fi_450.2 kn1)
    have hJ4 := kG_i hG 450 rfl (v := ((i 450) - 1)) ⟨(oz1041 c2 s3 kn0 kn1), (oz1047 fi_450.2 s3 kn1)⟩
    refine ft_go mi_k2 14 31 [(0, .ref 7)] [.int ((i 450) - 1), .int 0, .ref 8, .int 1, .ref 8] (ku i 450 ((i 450) - 1)) a q r (by rfl) ?_
    refine ko_copyI3 mi_k2.1 (n := 5) (c := 5) (m := 5) (b := 5) (mi_k2.2 _ _ (by rfl)) (by rfl) (by rfl) (by rfl) (ksG8 _ _ _ _) (ksG8 _ _ _ _) (ksA8 _ _ _ _) (hJ4.I.2.1 8) rfl (hJ4.I.2.1 8) rfl (oz1041 c2 s3 kn0 kn1) (oz246 kn1) (oz46 kn0) (oz1048 fi_450.2 s3 kn1) (oz1049 fi_450.2 s3 kn1 kn0) ?_
    intro a6 ea6 fa6
    have hJ6 := kG_al3 hJ4 8 rfl ea6 fa6 (kcpy_len2 (n := 5) (c := 5) (m := 5) (b := 5) (sp := 1) (dp := 0) (n1 := ((i 450) - 1)) (hJ4.I.2.1 8) rfl (hJ4.I.2.1 8) rfl (oz1041 c2 s3 kn0 kn1) (oz246 kn1) (oz46 kn0) (oz1048 fi_450.2 s3 kn1) (oz1049 fi_450.2 s3 kn1 kn0)) (fun _ => kd_bd _)
    refine ft_go mi_k2 8 48 [(0, .ref 7)] [.int ((i 450) - 1), .int 0, .ref 9, .int 1, .ref 9] (ku i 450 ((i 450) - 1)) a6 q r (by rfl) ?_
    refine ko_copyI3 mi_k2.1 (n := 5) (c := 5) (m := 5) (b := 5) (mi_k2.2 _ _ (by rfl)) (by rfl) (by rfl) (by rfl) (ksG9 _ _ _ _) (ksG9 _ _ _ _) (ksA9 _ _ _ _) (hJ6.I.2.1 9) rfl (hJ6.I.2.1 9) rfl (oz1041 c2 s3 kn0 kn1) (oz246 kn1) (oz46 kn0) (oz1048 fi_450.2 s3 kn1) (oz1049 fi_450.2 s3 kn1 kn0) ?_
    intro a8 ea8 fa8
    have hJ8 := kG_al3 hJ6 9 rfl ea8 fa8 (kcpy_len2 (n := 5) (c := 5) (m := 5) (b := 5) (sp := 1) (dp := 0) (n1 := ((i 450) - 1)) (hJ6.I.2.1 9) rfl (hJ6.I.2.1 9) rfl (oz1041 c2 s3 kn0 kn1) (oz246 kn1) (oz46 kn0) (oz1048 fi_450.2 s3 kn1) (oz1049 fi_450.2 s3 kn1 kn0)) (fun _ => kd_bd _)
    exact ft_ret mi_k2 (by rfl) (hP  _ _ _ _ hJ8 trivial)
def w30_1 : kW := ([78, 79, 450], [2, 8, 9, 14, 16, 17, 18, 19, 20, 21, 22, 23], [], [])
set_option maxRecDepth 100000 in
theorem kc30_1 {i : Nat → Int32} {a : Nat → List Int32} {q : Nat → List Int64} {r : Nat → Nat} (hI : kI i a q) (hr : kr r) (x1 : Int32) (hp0 : ((0 : Int) ≤ x1.toInt) ∧ (x1.toInt ≤ 7)) : km 3 30 [.ref 1, .int x1] (ks i a q r) (kVN w30_1 i a q r (fun i1 a1 q1 r1 => True)) := by
  have hG := kG_self w30_1 hI hr
  refine km_ofN (q := (mi_h30, mi_c30)) rfl (by decide) (Nat.le_of_ble_eq_true rfl) ?_
  intro P hP
  first | refine ft_go mi_k30 4 8 [(0, .ref 1), (1, .int x1)] [.int 0, .ref 8] i a q r (by rfl) ?_ | refine ko_steps mi_in30 4 _ (8, [(0, .ref 1), (1, .int x1)], [.int 0, .ref 8], (0, 0), ks i a q r) (by rfl) ?_
  refine ko_iald3 mi_k30.1 (n := 5) (c := 5) (ax := (0, 0, 0, 0, 0)) (mi_k30.2 _ _ (by rfl)) (by rfl) (ksG8 _ _ _ _) (hG.I.2.1 8) rfl (oz46 kn0) (oz547 kn0) ?_
  first | refine ft_go mi_k30 5 18 [(2, .int ((a 8).getD (0 : Int32).toNatClampNeg 0)), (0, .ref 1), (1, .int x1)] [.int 0, .ref 9] i a q r (by rfl) ?_ | refine ko_steps mi_in30 5 _ (18, [(2, .int ((a 8).getD (0 : Int32).toNatClampNeg 0)), (0, .ref 1), (1, .int x1)], [.int 0, .ref 9], (0, 0), ks i a q r) (by rfl) ?_
  refine ko_iald3 mi_k30.1 (n := 5) (c := 5) (ax := (0, 0, 0, 0, 0)) (mi_k30.2 _ _ (by rfl)) (by rfl) (ksG9 _ _ _ _) (hG.I.2.1 9) rfl (oz46 kn0) (oz547 kn0) ?_
  first | refine ft_go mi_k30 3 24 [(3, .int ((a 9).getD (0 : Int32).toNatClampNeg 0)), (2, .int ((a 8).getD (0 : Int32).toNatClampNeg 0)), (0, .ref 1), (1, .int x1)] [.ref 7] i a q r (by rfl) ?_ | refine ko_steps mi_in30 3 _ (24, [(3, .int ((a 9).getD (0 : Int32).toNatClampNeg 0)), (2, .int ((a 8).getD (0 : Int32).toNatClampNeg 0)), (0, .ref 1), (1, .int x1)], [.ref 7], (0, 0), ks i a q r) (by rfl) ?_
  refine ko_callN mi_k30.1 (pc := 24) (ls := [(3, .int ((a 9).getD (0 : Int32).toNatClampNeg 0)), (2, .int ((a 8).getD (0 : Int32).toNatClampNeg 0)), (0, .ref 1), (1, .int x1)]) (st := [.ref 7]) (h := ks i a q r) (i := (.invokevirtual 114, 3, 2, 0, 9, 0, 222)) (mi_k30.2 _ _ (by rfl)) (ft_invS mi_pq2 (by rfl)) (cy := mi_c2) mi_pq2 rfl (kc2_7 hG.I hG.R ) (by decide) ?_
  intro ig1 ag1 qg1 rg1 kg1 hg1
  have hGg1 := kG_call hG kg1 (by decide +kernel)
  have efig1_78 : (ig1 78).toInt = (i 78).toInt := kg1.ti 78 rfl
  first | refine ft_go mi_k30 3 33 [(3, .int ((a 9).getD (0 : Int32).toNatClampNeg 0)), (2, .int ((a 8).getD (0 : Int32).toNatClampNeg 0)), (0, .ref 1), (1, .int x1)] [.int 8, .int (ig1 78)] ig1 ag1 qg1 rg1 (by rfl) ?_ | refine ko_steps mi_in30 3 _ (33, [(3, .int ((a 9).getD (0 : Int32).toNatClampNeg 0)), (2, .int ((a 8).getD (0 : Int32).toNatClampNeg 0)), (0, .ref 1), (1, .int x1)], [.int 8, .int (ig1 78)], (0, 0), ks ig1 ag1 qg1 rg1) (by rfl) ?_
  refine ft_if mi_k30 ((ig1 78) != 8) 41 36 [(3, .int ((a 9).getD (0 : Int32).toNatClampNeg 0)), (2, .int ((a 8).getD (0 : Int32).toNatClampNeg 0)), (0, .ref 1), (1, .int x1)] [] (by rfl) (fun c => ?_) (fun c => ?_)
  ·
    have c2 : (ig1 78).toInt ≠ (8 : Int32).toInt := kd_ne c; clear c
    first | refine ft_go mi_k30 2 43 [(3, .int ((a 9).getD (0 : Int32).toNatClampNeg 0)), (2, .int ((a 8).getD (0 : Int32).toNatClampNeg 0)), (0, .ref 1), (1, .int x1)] [.int x1, .int ((a 8).getD (0 : Int32).toNatClampNeg 0)] ig1 ag1 qg1 rg1 (by rfl) ?_ | refine ko_steps mi_in30 2 _ (43, [(3, .int ((a 9).getD (0 : Int32).toNatClampNeg 0)), (2, .int ((a 8).getD (0 : Int32).toNatClampNeg 0)), (0, .ref 1), (1, .int x1)], [.int x1, .int ((a 8).getD (0 : Int32).toNatClampNeg 0)], (0, 0), ks ig1 ag1 qg1 rg1) (by rfl) ?_
    refine ft_if mi_k30 (((a 8).getD (0 : Int32).toNatClampNeg 0) == x1) 54 46 [(3, .int ((a 9).getD (0 : Int32).toNatClampNeg 0)), (2, .int ((a 8).getD (0 : Int32).toNatClampNeg 0)), (0, .ref 1), (1, .int x1)] [] (by rfl) (fun c => ?_) (fun c => ?_)
    ·
      have c3 : ((a 8).getD (0 : Int32).toNatClampNeg 0).toInt = x1.toInt := kd_eq c; clear c
      exact ft_ret mi_k30 (by rfl) (hP  _ _ _ _ hGg1 trivial)
    ·
      have c4 : ((a 8).getD (0 : Int32).toNatClampNeg 0).toInt ≠ x1.toInt := kd_eqF c; clear c
      first | refine ft_go mi_k30 2 48 [(3, .int ((a 9).getD (0 : Int32).toNatClampNeg 0)), (2, .int ((a 8).getD (0 : Int32).toNatClampNeg 0)), (0, .ref 1), (1, .int x1)] [.int ((a 8).getD (0 : Int32).toNatClampNeg 0), .ref 1] ig1 ag1 qg1 rg1 (by rfl) ?_ | refine ko_steps mi_in30 2 _ (48, [(3, .int ((a 9).getD (0 : Int32).toNatClampNeg 0)), (2, .int ((a 8).getD (0 : Int32).toNatClampNeg 0)), (0, .ref 1), (1, .int x1)], [.int ((a 8).getD (0 : Int32).toNatClampNeg 0), .ref 1], (0, 0), ks ig1 ag1 qg1 rg1) (by rfl) ?_
      refine ko_callPI mi_k30.1 (pc := 48) (ls := [(3, .int ((a 9).getD (0 : Int32).toNatClampNeg 0)), (2, .int ((a 8).getD (0 : Int32).toNatClampNeg 0)), (0, .ref 1), (1, .int x1)]) (st := [.int ((a 8).getD (0 : Int32).toNatClampNeg 0), .ref 1]) (h := ks ig1 ag1 qg1 rg1) (i := (.invokevirtual 85, 3, 24, 0, 9, 0, 165)) (mi_k30.2 _ _ (by rfl)) (ft_invS mi_pq24 (by rfl)) (cy := mi_c24) mi_pq24 rfl (kc24_1 hGg1.I hGg1.R ((a 8).getD (0 : Int32).toNatClampNeg 0)) (by decide) ?_
      intro vg5 hg5
      rcases hg5 with ⟨eg5, hg5⟩ | ⟨eg5, hg5⟩
      ·
        subst eg5
        have fig1_64 : ((0 : Int) ≤ (ig1 64).toInt) ∧ ((ig1 64).toInt ≤ 8) := hGg1.I.1 64
        have fi_64 : ((0 : Int) ≤ (i 64).toInt) ∧ ((i 64).toInt ≤ 8) := hG.I.1 64
        have efig1_64 : (ig1 64).toInt = (i 64).toInt := kg1.ti 64 rfl
        have z6 : ((0 : Int) ≤ ((a 8).getD (0 : Int32).toNatClampNeg 0).toInt) ∧ (((a 8).getD (0 : Int32).toNatClampNeg 0).toInt < (ig1 64).toInt) := hg5
        first | refine ft_go mi_k30 5 61 [(3, .int ((a 9).getD (0 : Int32).toNatClampNeg 0)), (2, .int ((a 8).getD (0 : Int32).toNatClampNeg 0)), (0, .ref 1), (1, .int x1)] [.int ((a 8).getD (0 : Int32).toNatClampNeg 0), .ref 2, .int ((a 9).getD (0 : Int32).toNatClampNeg 0)] ig1 ag1 qg1 rg1 (by rfl) ?_ | refine ko_steps mi_in30 5 _ (61, [(3, .int ((a 9).getD (0 : Int32).toNatClampNeg 0)), (2, .int ((a 8).getD (0 : Int32).toNatClampNeg 0)), (0, .ref 1), (1, .int x1)], [.int ((a 8).getD (0 : Int32).toNatClampNeg 0), .ref 2, .int ((a 9).getD (0 : Int32).toNatClampNeg 0)], (0, 0), ks ig1 ag1 qg1 rg1) (by rfl) ?_
        refine ko_iald3 mi_k30.1 (n := 8) (c := 8) (ax := (0, 0, 0, 0, 0)) (mi_k30.2 _ _ (by rfl)) (by rfl) (ksG2 _ _ _ _) (hGg1.I.2.1 2) rfl (oz3 z6.1) (oz974 fig1_64.2 z6.2) ?_
        have m8 : (((bif decide (((ag1 2).getD ((a 8).getD (0 : Int32).toNatClampNeg 0).toNatClampNeg 0) < ((a 9).getD (0 : Int32).toNatClampNeg 0)) then ((ag1 2).getD ((a 8).getD (0 : Int32).toNatClampNeg 0).toNatClampNeg 0) else ((a 9).getD (0 : Int32).toNatClampNeg 0)).toInt ≤ ((a 9).getD (0 : Int32).toNatClampNeg 0).toInt) ∧ ((bif decide (((ag1 2).getD ((a 8).getD (0 : Int32).toNatClampNeg 0).toNatClampNeg 0) < ((a 9).getD (0 : Int32).toNatClampNeg 0)) then ((ag1 2).getD ((a 8).getD (0 : Int32).toNatClampNeg 0).toNatClampNeg 0) else ((a 9).getD (0 : Int32).toNatClampNeg 0)).toInt ≤ ((ag1 2).getD ((a 8).getD (0 : Int32).toNatClampNeg 0).toNatClampNeg 0).toInt)) ∧ ((bif decide (((ag1 2).getD ((a 8).getD (0 : Int32).toNatClampNeg 0).toNatClampNeg 0) < ((a 9).getD (0 : Int32).toNatClampNeg 0)) then ((ag1 2).getD ((a 8).getD (0 : Int32).toNatClampNeg 0).toNatClampNeg 0) else ((a 9).getD (0 : Int32).toNatClampNeg 0)).toInt = ((a 9).getD (0 : Int32).toNatClampNeg 0).toInt ∨ (bif decide (((ag1 2).getD ((a 8).getD (0 : Int32).toNatClampNeg 0).toNatClampNeg 0) < ((a 9).getD (0 : Int32).toNatClampNeg 0)) then ((ag1 2).getD ((a 8).getD (0 : Int32).toNatClampNeg 0).toNatClampNeg 0) else ((a 9).getD (0 : Int32).toNatClampNeg 0)).toInt = ((ag1 2).getD ((a 8).getD (0 : Int32).toNatClampNeg 0).toNatClampNeg 0).toInt) := kd_min
        first | refine ft_go mi_k30 1 65 [(3, .int ((a 9).getD (0 : Int32).toNatClampNeg 0)), (2, .int ((a 8).getD (0 : Int32).toNatClampNeg 0)), (0, .ref 1), (1, .int x1)] [.int (bif decide (((ag1 2).getD ((a 8).getD (0 : Int32).toNatClampNeg 0).toNatClampNeg 0) < ((a 9).getD (0 : Int32).toNatClampNeg 0)) then ((ag1 2).getD ((a 8).getD (0 : Int32).toNatClampNeg 0).toNatClampNeg 0) else ((a 9).getD (0 : Int32).toNatClampNeg 0))] ig1 ag1 qg1 rg1 (by rfl) ?_ | refine ko_steps mi_in30 1 _ (65, [(3, .int ((a 9).getD (0 : Int32).toNatClampNeg 0)), (2, .int ((a 8).getD (0 : Int32).toNatClampNeg 0)), (0, .ref 1), (1, .int x1)], [.int (bif decide (((ag1 2).getD ((a 8).getD (0 : Int32).toNatClampNeg 0).toNatClampNeg 0) < ((a 9).getD (0 : Int32).toNatClampNeg 0)) then ((ag1 2).getD ((a 8).getD (0 : Int32).toNatClampNeg 0).toNatClampNeg 0) else ((a 9).getD (0 : Int32).toNatClampNeg 0))], (0, 0), ks ig1 ag1 qg1 rg1) (by rfl) ?_
        generalize (bif decide (((ag1 2).getD ((a 8).getD (0 : Int32).toNatClampNeg 0).toNatClampNeg 0) < ((a 9).getD (0 : Int32).toNatClampNeg 0)) then ((ag1 2).getD ((a 8).getD (0 : Int32).toNatClampNeg 0).toNatClampNeg 0) else ((a 9).getD (0 : Int32).toNatClampNeg 0)) = m7 at m8 ⊢
        first | refine ft_go mi_k30 5 73 [(4, .int m7), (3, .int ((a 9).getD (0 : Int32).toNatClampNeg 0)), (2, .int ((a 8).getD (0 : Int32).toNatClampNeg 0)), (0, .ref 1), (1, .int x1)] [.int ((a 8).getD (0 : Int32).toNatClampNeg 0), .ref 2, .int ((a 8).getD (0 : Int32).toNatClampNeg 0), .ref 2] ig1 ag1 qg1 rg1 (by rfl) ?_ | refine ko_steps mi_in30 5 _ (73, [(4, .int m7), (3, .int ((a 9).getD (0 : Int32).toNatClampNeg 0)), (2, .int ((a 8).getD (0 : Int32).toNatClampNeg 0)), (0, .ref 1), (1, .int x1)], [.int ((a 8).getD (0 : Int32).toNatClampNeg 0), .ref 2, .int ((a 8).getD (0 : Int32).toNatClampNeg 0), .ref 2], (0, 0), ks ig1 ag1 qg1 rg1) (by rfl) ?_
        refine ko_iald3 mi_k30.1 (n := 8) (c := 8) (ax := (0, 0, 0, 0, 0)) (mi_k30.2 _ _ (by rfl)) (by rfl) (ksG2 _ _ _ _) (hGg1.I.2.1 2) rfl (oz3 z6.1) (oz974 fig1_64.2 z6.2) ?_
        have b9 : ((-2147483648 : Int) ≤ ((ag1 2).getD ((a 8).getD (0 : Int32).toNatClampNeg 0).toNatClampNeg 0).toInt) ∧ (((ag1 2).getD ((a 8).getD (0 : Int32).toNatClampNeg 0).toNatClampNeg 0).toInt ≤ 2147483647) := kd_bd ((ag1 2).getD ((a 8).getD (0 : Int32).toNatClampNeg 0).toNatClampNeg 0)
        have b10 : ((-2147483648 : Int) ≤ m7.toInt) ∧ (m7.toInt ≤ 2147483647) := kd_bd m7
        first | refine ft_go mi_k30 2 77 [(4, .int m7), (3, .int ((a 9).getD (0 : Int32).toNatClampNeg 0)), (2, .int ((a 8).getD (0 : Int32).toNatClampNeg 0)), (0, .ref 1), (1, .int x1)] [.int (((ag1 2).getD ((a 8).getD (0 : Int32).toNatClampNeg 0).toNatClampNeg 0) - m7), .int ((a 8).getD (0 : Int32).toNatClampNeg 0), .ref 2] ig1 ag1 qg1 rg1 (by rfl) ?_ | refine ko_steps mi_in30 2 _ (77, [(4, .int m7), (3, .int ((a 9).getD (0 : Int32).toNatClampNeg 0)), (2, .int ((a 8).getD (0 : Int32).toNatClampNeg 0)), (0, .ref 1), (1, .int x1)], [.int (((ag1 2).getD ((a 8).getD (0 : Int32).toNatClampNeg 0).toNatClampNeg 0) - m7), .int ((a 8).getD (0 : Int32).toNatClampNeg 0), .ref 2], (0, 0), ks ig1 ag1 qg1 rg1) (by rfl) ?_
        refine ko_iast3 mi_k30.1 (n := 8) (c := 8) (ax := (0, 0, 0, 0, 0)) (mi_k30.2 _ _ (by rfl)) (by rfl) (ksG2 _ _ _ _) (ksA2 _ _ _ _) (hGg1.I.2.1 2) rfl (oz3 z6.1) (oz974 fig1_64.2 z6.2) ?_
        intro a11 ea11 fa11
        have hJ11 := kG_a3 hGg1 2 rfl ea11 fa11 (kd_bd _)
        first | refine ft_go mi_k30 7 91 [(4, .int m7), (3, .int ((a 9).getD (0 : Int32).toNatClampNeg 0)), (2, .int ((a 8).getD (0 : Int32).toNatClampNeg 0)), (0, .ref 1), (1, .int x1)] [.int x1, .ref 2, .int 999, .int x1, .ref 2] ig1 a11 qg1 rg1 (by rfl) ?_ | refine ko_steps mi_in30 7 _ (91, [(4, .int m7), (3, .int ((a 9).getD (0 : Int32).toNatClampNeg 0)), (2, .int ((a 8).getD (0 : Int32).toNatClampNeg 0)), (0, .ref 1), (1, .int x1)], [.int x1, .ref 2, .int 999, .int x1, .ref 2], (0, 0), ks ig1 a11 qg1 rg1) (by rfl) ?_
        refine ko_iald3 mi_k30.1 (n := 8) (c := 8) (ax := (0, 0, 0, 0, 0)) (mi_k30.2 _ _ (by rfl)) (by rfl) (ksG2 _ _ _ _) (hJ11.I.2.1 2) rfl (oz3 hp0.1) (oz1032 hp0.2) ?_
        have b12 : ((-2147483648 : Int) ≤ ((a11 2).getD x1.toNatClampNeg 0).toInt) ∧ (((a11 2).getD x1.toNatClampNeg 0).toInt ≤ 2147483647) := kd_bd ((a11 2).getD x1.toNatClampNeg 0)
        first | refine ft_go mi_k30 2 95 [(4, .int m7), (3, .int ((a 9).getD (0 : Int32).toNatClampNeg 0)), (2, .int ((a 8).getD (0 : Int32).toNatClampNeg 0)), (0, .ref 1), (1, .int x1)] [.int (((a11 2).getD x1.toNatClampNeg 0) + m7), .int 999, .int x1, .ref 2] ig1 a11 qg1 rg1 (by rfl) ?_ | refine ko_steps mi_in30 2 _ (95, [(4, .int m7), (3, .int ((a 9).getD (0 : Int32).toNatClampNeg 0)), (2, .int ((a 8).getD (0 : Int32).toNatClampNeg 0)), (0, .ref 1), (1, .int x1)], [.int (((a11 2).getD x1.toNatClampNeg 0) + m7), .int 999, .int x1, .ref 2], (0, 0), ks ig1 a11 qg1 rg1) (by rfl) ?_
        have m14 : (((bif decide ((((a11 2).getD x1.toNatClampNeg 0) + m7) < 999) then (((a11 2).getD x1.toNatClampNeg 0) + m7) else 999).toInt ≤ (999 : Int32).toInt) ∧ ((bif decide ((((a11 2).getD x1.toNatClampNeg 0) + m7) < 999) then (((a11 2).getD x1.toNatClampNeg 0) + m7) else 999).toInt ≤ (((a11 2).getD x1.toNatClampNeg 0) + m7).toInt)) ∧ ((bif decide ((((a11 2).getD x1.toNatClampNeg 0) + m7) < 999) then (((a11 2).getD x1.toNatClampNeg 0) + m7) else 999).toInt = (999 : Int32).toInt ∨ (bif decide ((((a11 2).getD x1.toNatClampNeg 0) + m7) < 999) then (((a11 2).getD x1.toNatClampNeg 0) + m7) else 999).toInt = (((a11 2).getD x1.toNatClampNeg 0) + m7).toInt) := kd_min
        first | refine ft_go mi_k30 1 98 [(4, .int m7), (3, .int ((a 9).getD (0 : Int32).toNatClampNeg 0)), (2, .int ((a 8).getD (0 : Int32).toNatClampNeg 0)), (0, .ref 1), (1, .int x1)] [.int (bif decide ((((a11 2).getD x1.toNatClampNeg 0) + m7) < 999) then (((a11 2).getD x1.toNatClampNeg 0) + m7) else 999), .int x1, .ref 2] ig1 a11 qg1 rg1 (by rfl) ?_ | refine ko_steps mi_in30 1 _ (98, [(4, .int m7), (3, .int ((a 9).getD (0 : Int32).toNatClampNeg 0)), (2, .int ((a 8).getD (0 : Int32).toNatClampNeg 0)), (0, .ref 1), (1, .int x1)], [.int (bif decide ((((a11 2).getD x1.toNatClampNeg 0) + m7) < 999) then (((a11 2).getD x1.toNatClampNeg 0) + m7) else 999), .int x1, .ref 2], (0, 0), ks ig1 a11 qg1 rg1) (by rfl) ?_
        generalize (bif decide ((((a11 2).getD x1.toNatClampNeg 0) + m7) < 999) then (((a11 2).getD x1.toNatClampNeg 0) + m7) else 999) = m13 at m14 ⊢
        refine ko_iast3 mi_k30.1 (n := 8) (c := 8) (ax := (0, 0, 0, 0, 0)) (mi_k30.2 _ _ (by rfl)) (by rfl) (ksG2 _ _ _ _) (ksA2 _ _ _ _) (hJ11.I.2.1 2) rfl (oz3 hp0.1) (oz1032 hp0.2) ?_
        intro a15 ea15 fa15
        have hJ15 := kG_a3 hJ11 2 rfl ea15 fa15 (kd_bd _)
        have efig1_79 : (ig1 79).toInt = (i 79).toInt := kg1.ti 79 rfl
        have b16 : ((-2147483648 : Int) ≤ (ig1 79).toInt) ∧ ((ig1 79).toInt ≤ 2147483647) := kd_bd (ig1 79)
        have hJ17 := kG_i hJ15 79 rfl (v := ((ig1 79) + m7)) (kd_bd _)
        first | refine ft_go mi_k30 10 116 [(4, .int m7), (3, .int ((a 9).getD (0 : Int32).toNatClampNeg 0)), (2, .int ((a 8).getD (0 : Int32).toNatClampNeg 0)), (0, .ref 1), (1, .int x1)] [.int 2, .ref 14, .int 2, .ref 14] (ku ig1 79 ((ig1 79) + m7)) a15 qg1 rg1 (by rfl) ?_ | refine ko_steps mi_in30 10 _ (116, [(4, .int m7), (3, .int ((a 9).getD (0 : Int32).toNatClampNeg 0)), (2, .int ((a 8).getD (0 : Int32).toNatClampNeg 0)), (0, .ref 1), (1, .int x1)], [.int 2, .ref 14, .int 2, .ref 14], (0, 0), ks (ku ig1 79 ((ig1 79) + m7)) a15 qg1 rg1) (by rfl) ?_
        refine ko_iald3 mi_k30.1 (n := 5) (c := 5) (ax := (0, 0, 0, 0, 0)) (mi_k30.2 _ _ (by rfl)) (by rfl) (ksG14 _ _ _ _) (hJ17.I.2.1 14) rfl (oz256 kn2) (oz549 kn2) ?_
        have b18 : ((-2147483648 : Int) ≤ ((a 9).getD (0 : Int32).toNatClampNeg 0).toInt) ∧ (((a 9).getD (0 : Int32).toNatClampNeg 0).toInt ≤ 2147483647) := kd_bd ((a 9).getD (0 : Int32).toNatClampNeg 0)
        have b19 : ((-2147483648 : Int) ≤ ((a15 14).getD (2 : Int32).toNatClampNeg 0).toInt) ∧ (((a15 14).getD (2 : Int32).toNatClampNeg 0).toInt ≤ 2147483647) := kd_bd ((a15 14).getD (2 : Int32).toNatClampNeg 0)
        have b20 : ((-2147483648 : Int) ≤ (((a 9).getD (0 : Int32).toNatClampNeg 0) - m7).toInt) ∧ ((((a 9).getD (0 : Int32).toNatClampNeg 0) - m7).toInt ≤ 2147483647) := kd_bd (((a 9).getD (0 : Int32).toNatClampNeg 0) - m7)
        first | refine ft_go mi_k30 4 122 [(4, .int m7), (3, .int ((a 9).getD (0 : Int32).toNatClampNeg 0)), (2, .int ((a 8).getD (0 : Int32).toNatClampNeg 0)), (0, .ref 1), (1, .int x1)] [.int (((a15 14).getD (2 : Int32).toNatClampNeg 0) + (((a 9).getD (0 : Int32).toNatClampNeg 0) - m7)), .int 2, .ref 14] (ku ig1 79 ((ig1 79) + m7)) a15 qg1 rg1 (by rfl) ?_ | refine ko_steps mi_in30 4 _ (122, [(4, .int m7), (3, .int ((a 9).getD (0 : Int32).toNatClampNeg 0)), (2, .int ((a 8).getD (0 : Int32).toNatClampNeg 0)), (0, .ref 1), (1, .int x1)], [.int (((a15 14).getD (2 : Int32).toNatClampNeg 0) + (((a 9).getD (0 : Int32).toNatClampNeg 0) - m7)), .int 2, .ref 14], (0, 0), ks (ku ig1 79 ((ig1 79) + m7)) a15 qg1 rg1) (by rfl) ?_
        refine ko_iast3 mi_k30.1 (n := 5) (c := 5) (ax := (0, 0, 0, 0, 0)) (mi_k30.2 _ _ (by rfl)) (by rfl) (ksG14 _ _ _ _) (ksA14 _ _ _ _) (hJ17.I.2.1 14) rfl (oz256 kn2) (oz549 kn2) ?_
        intro a21 ea21 fa21
        have hJ21 := kG_a3 hJ17 14 rfl ea21 fa21 (kd_bd _)
        first | refine ft_go mi_k30 3 128 [(4, .int m7), (3, .int ((a 9).getD (0 : Int32).toNatClampNeg 0)), (2, .int ((a 8).getD (0 : Int32).toNatClampNeg 0)), (0, .ref 1), (1, .int x1)] [.int ((a 8).getD (0 : Int32).toNatClampNeg 0), .ref 15] (ku ig1 79 ((ig1 79) + m7)) a21 qg1 rg1 (by rfl) ?_ | refine ko_steps mi_in30 3 _ (128, [(4, .int m7), (3, .int ((a 9).getD (0 : Int32).toNatClampNeg 0)), (2, .int ((a 8).getD (0 : Int32).toNatClampNeg 0)), (0, .ref 1), (1, .int x1)], [.int ((a 8).getD (0 : Int32).toNatClampNeg 0), .ref 15], (0, 0), ks (ku ig1 79 ((ig1 79) + m7)) a21 qg1 rg1) (by rfl) ?_
        by_cases w22 : ((a 8).getD (0 : Int32).toNatClampNeg 0).toInt = 0
        ·
          refine ko_eq (x1 := (128, [(4, .int m7), (3, .int ((a 9).getD (0 : Int32).toNatClampNeg 0)), (2, .int ((a 8).getD (0 : Int32).toNatClampNeg 0)), (0, .ref 1), (1, .int x1)], [.int 0, .ref 15], (0, 0), ks (ku ig1 79 ((ig1 79) + m7)) a21 qg1 rg1)) (by rw [(kj_eq w22 (by decide) : ((a 8).getD (0 : Int32).toNatClampNeg 0) = 0)]) ?_
          first | refine ft_go mi_k30 3 131 [(4, .int m7), (3, .int ((a 9).getD (0 : Int32).toNatClampNeg 0)), (2, .int ((a 8).getD (0 : Int32).toNatClampNeg 0)), (0, .ref 1), (1, .int x1)] [.int x1, .ref 16, .int x1, .ref 16] (ku ig1 79 ((ig1 79) + m7)) a21 qg1 rg1 (by rfl) ?_ | refine ko_steps mi_in30 3 _ (131, [(4, .int m7), (3, .int ((a 9).getD (0 : Int32).toNatClampNeg 0)), (2, .int ((a 8).getD (0 : Int32).toNatClampNeg 0)), (0, .ref 1), (1, .int x1)], [.int x1, .ref 16, .int x1, .ref 16], (0, 0), ks (ku ig1 79 ((ig1 79) + m7)) a21 qg1 rg1) (by rfl) ?_
          refine ko_iald3 mi_k30.1 (n := 8) (c := 8) (ax := (0, 0, 0, 0, 0)) (mi_k30.2 _ _ (by rfl)) (by rfl) (ksG16 _ _ _ _) (hJ21.I.2.1 16) rfl (oz3 hp0.1) (oz1032 hp0.2) ?_
          have b23 : ((-2147483648 : Int) ≤ ((a21 16).getD x1.toNatClampNeg 0).toInt) ∧ (((a21 16).getD x1.toNatClampNeg 0).toInt ≤ 2147483647) := kd_bd ((a21 16).getD x1.toNatClampNeg 0)
          first | refine ft_go mi_k30 2 135 [(4, .int m7), (3, .int ((a 9).getD (0 : Int32).toNatClampNeg 0)), (2, .int ((a 8).getD (0 : Int32).toNatClampNeg 0)), (0, .ref 1), (1, .int x1)] [.int (((a21 16).getD x1.toNatClampNeg 0) + m7), .int x1, .ref 16] (ku ig1 79 ((ig1 79) + m7)) a21 qg1 rg1 (by rfl) ?_ | refine ko_steps mi_in30 2 _ (135, [(4, .int m7), (3, .int ((a 9).getD (0 : Int32).toNatClampNeg 0)), (2, .int ((a 8).getD (0 : Int32).toNatClampNeg 0)), (0, .ref 1), (1, .int x1)], [.int (((a21 16).getD x1.toNatClampNeg 0) + m7), .int x1, .ref 16], (0, 0), ks (ku ig1 79 ((ig1 79) + m7)) a21 qg1 rg1) (by rfl) ?_
          refine ko_iast3 mi_k30.1 (n := 8) (c := 8) (ax := (0, 0, 0, 0, 0)) (mi_k30.2 _ _ (by rfl)) (by rfl) (ksG16 _ _ _ _) (ksA16 _ _ _ _) (hJ21.I.2.1 16) rfl (oz3 hp0.1) (oz1032 hp0.2) ?_
          intro a24 ea24 fa24
          have hJ24 := kG_a3 hJ21 16 rfl ea24 fa24 (kd_bd _)
          exact ft_ret mi_k30 (by rfl) (hP  _ _ _ _ hJ24 trivial)
        by_cases w25 : ((a 8).getD (0 : Int32).toNatClampNeg 0).toInt = 1
        ·
          refine ko_eq (x1 := (128, [(4, .int m7), (3, .int ((a 9).getD (0 : Int32).toNatClampNeg 0)), (2, .int ((a 8).getD (0 : Int32).toNatClampNeg 0)), (0, .ref 1), (1, .int x1)], [.int 1, .ref 15], (0, 0), ks (ku ig1 79 ((ig1 79) + m7)) a21 qg1 rg1)) (by rw [(kj_eq w25 (by decide) : ((a 8).getD (0 : Int32).toNatClampNeg 0) = 1)]) ?_
          first | refine ft_go mi_k30 3 131 [(4, .int m7), (3, .int ((a 9).getD (0 : Int32).toNatClampNeg 0)), (2, .int ((a 8).getD (0 : Int32).toNatClampNeg 0)), (0, .ref 1), (1, .int x1)] [.int x1, .ref 17, .int x1, .ref 17] (ku ig1 79 ((ig1 79) + m7)) a21 qg1 rg1 (by rfl) ?_ | refine ko_steps mi_in30 3 _ (131, [(4, .int m7), (3, .int ((a 9).getD (0 : Int32).toNatClampNeg 0)), (2, .int ((a 8).getD (0 : Int32).toNatClampNeg 0)), (0, .ref 1), (1, .int x1)], [.int x1, .ref 17, .int x1, .ref 17], (0, 0), ks (ku ig1 79 ((ig1 79) + m7)) a21 qg1 rg1) (by rfl) ?_
          refine ko_iald3 mi_k30.1 (n := 8) (c := 8) (ax := (0, 0, 0, 0, 0)) (mi_k30.2 _ _ (by rfl)) (by rfl) (ksG17 _ _ _ _) (hJ21.I.2.1 17) rfl (oz3 hp0.1) (oz1032 hp0.2) ?_
          have b26 : ((-2147483648 : Int) ≤ ((a21 17).getD x1.toNatClampNeg 0).toInt) ∧ (((a21 17).getD x1.toNatClampNeg 0).toInt ≤ 2147483647) := kd_bd ((a21 17).getD x1.toNatClampNeg 0)
          first | refine ft_go mi_k30 2 135 [(4, .int m7), (3, .int ((a 9).getD (0 : Int32).toNatClampNeg 0)), (2, .int ((a 8).getD (0 : Int32).toNatClampNeg 0)), (0, .ref 1), (1, .int x1)] [.int (((a21 17).getD x1.toNatClampNeg 0) + m7), .int x1, .ref 17] (ku ig1 79 ((ig1 79) + m7)) a21 qg1 rg1 (by rfl) ?_ | refine ko_steps mi_in30 2 _ (135, [(4, .int m7), (3, .int ((a 9).getD (0 : Int32).toNatClampNeg 0)), (2, .int ((a 8).getD (0 : Int32).toNatClampNeg 0)), (0, .ref 1), (1, .int x1)], [.int (((a21 17).getD x1.toNatClampNeg 0) + m7), .int x1, .ref 17], (0, 0), ks (ku ig1 79 ((ig1 79) + m7)) a21 qg1 rg1) (by rfl) ?_
          refine ko_iast3 mi_k30.1 (n := 8) (c := 8) (ax := (0, 0, 0, 0, 0)) (mi_k30.2 _ _ (by rfl)) (by rfl) (ksG17 _ _ _ _) (ksA17 _ _ _ _) (hJ21.I.2.1 17) rfl (oz3 hp0.1) (oz1032 hp0.2) ?_
          intro a27 ea27 fa27
          have hJ27 := kG_a3 hJ21 17 rfl ea27 fa27 (kd_bd _)
          exact ft_ret mi_k30 (by rfl) (hP  _ _ _ _ hJ27 trivial)
        by_cases w28 : ((a 8).getD (0 : Int32).toNatClampNeg 0).toInt = 2
        ·
          refine ko_eq (x1 := (128, [(4, .int m7), (3, .int ((a 9).getD (0 : Int32).toNatClampNeg 0)), (2, .int ((a 8).getD (0 : Int32).toNatClampNeg 0)), (0, .ref 1), (1, .int x1)], [.int 2, .ref 15], (0, 0), ks (ku ig1 79 ((ig1 79) + m7)) a21 qg1 rg1)) (by rw [(kj_eq w28 (by decide) : ((a 8).getD (0 : Int32).toNatClampNeg 0) = 2)]) ?_
          first | refine ft_go mi_k30 3 131 [(4, .int m7), (3, .int ((a 9).getD (0 : Int32).toNatClampNeg 0)), (2, .int ((a 8).getD (0 : Int32).toNatClampNeg 0)), (0, .ref 1), (1, .int x1)] [.int x1, .ref 18, .int x1, .ref 18] (ku ig1 79 ((ig1 79) + m7)) a21 qg1 rg1 (by rfl) ?_ | refine ko_steps mi_in30 3 _ (131, [(4, .int m7), (3, .int ((a 9).getD (0 : Int32).toNatClampNeg 0)), (2, .int ((a 8).getD (0 : Int32).toNatClampNeg 0)), (0, .ref 1), (1, .int x1)], [.int x1, .ref 18, .int x1, .ref 18], (0, 0), ks (ku ig1 79 ((ig1 79) + m7)) a21 qg1 rg1) (by rfl) ?_
          refine ko_iald3 mi_k30.1 (n := 8) (c := 8) (ax := (0, 0, 0, 0, 0)) (mi_k30.2 _ _ (by rfl)) (by rfl) (ksG18 _ _ _ _) (hJ21.I.2.1 18) rfl (oz3 hp0.1) (oz1032 hp0.2) ?_
          have b29 : ((-2147483648 : Int) ≤ ((a21 18).getD x1.toNatClampNeg 0).toInt) ∧ (((a21 18).getD x1.toNatClampNeg 0).toInt ≤ 2147483647) := kd_bd ((a21 18).getD x1.toNatClampNeg 0)
          first | refine ft_go mi_k30 2 135 [(4, .int m7), (3, .int ((a 9).getD (0 : Int32).toNatClampNeg 0)), (2, .int ((a 8).getD (0 : Int32).toNatClampNeg 0)), (0, .ref 1), (1, .int x1)] [.int (((a21 18).getD x1.toNatClampNeg 0) + m7), .int x1, .ref 18] (ku ig1 79 ((ig1 79) + m7)) a21 qg1 rg1 (by rfl) ?_ | refine ko_steps mi_in30 2 _ (135, [(4, .int m7), (3, .int ((a 9).getD (0 : Int32).toNatClampNeg 0)), (2, .int ((a 8).getD (0 : Int32).toNatClampNeg 0)), (0, .ref 1), (1, .int x1)], [.int (((a21 18).getD x1.toNatClampNeg 0) + m7), .int x1, .ref 18], (0, 0), ks (ku ig1 79 ((ig1 79) + m7)) a21 qg1 rg1) (by rfl) ?_
          refine ko_iast3 mi_k30.1 (n := 8) (c := 8) (ax := (0, 0, 0, 0, 0)) (mi_k30.2 _ _ (by rfl)) (by rfl) (ksG18 _ _ _ _) (ksA18 _ _ _ _) (hJ21.I.2.1 18) rfl (oz3 hp0.1) (oz1032 hp0.2) ?_
          intro a30 ea30 fa30
          have hJ30 := kG_a3 hJ21 18 rfl ea30 fa30 (kd_bd _)
          exact ft_ret mi_k30 (by rfl) (hP  _ _ _ _ hJ30 trivial)
        by_cases w31 : ((a 8).getD (0 : Int32).toNatClampNeg 0).toInt = 3
        ·
          refine ko_eq (x1 := (128, [(4, .int m7), (3, .int ((a 9).getD (0 : Int32).toNatClampNeg 0)), (2, .int ((a 8).getD (0 : Int32).toNatClampNeg 0)), (0, .ref 1), (1, .int x1)], [.int 3, .ref 15], (0, 0), ks (ku ig1 79 ((ig1 79) + m7)) a21 qg1 rg1)) (by rw [(kj_eq w31 (by decide) : ((a 8).getD (0 : Int32).toNatClampNeg 0) = 3)]) ?_
          first | refine ft_go mi_k30 3 131 [(4, .int m7), (3, .int ((a 9).getD (0 : Int32).toNatClampNeg 0)), (2, .int ((a 8).getD (0 : Int32).toNatClampNeg 0)), (0, .ref 1), (1, .int x1)] [.int x1, .ref 19, .int x1, .ref 19] (ku ig1 79 ((ig1 79) + m7)) a21 qg1 rg1 (by rfl) ?_ | refine ko_steps mi_in30 3 _ (131, [(4, .int m7), (3, .int ((a 9).getD (0 : Int32).toNatClampNeg 0)), (2, .int ((a 8).getD (0 : Int32).toNatClampNeg 0)), (0, .ref 1), (1, .int x1)], [.int x1, .ref 19, .int x1, .ref 19], (0, 0), ks (ku ig1 79 ((ig1 79) + m7)) a21 qg1 rg1) (by rfl) ?_
          refine ko_iald3 mi_k30.1 (n := 8) (c := 8) (ax := (0, 0, 0, 0, 0)) (mi_k30.2 _ _ (by rfl)) (by rfl) (ksG19 _ _ _ _) (hJ21.I.2.1 19) rfl (oz3 hp0.1) (oz1032 hp0.2) ?_
          have b32 : ((-2147483648 : Int) ≤ ((a21 19).getD x1.toNatClampNeg 0).toInt) ∧ (((a21 19).getD x1.toNatClampNeg 0).toInt ≤ 2147483647) := kd_bd ((a21 19).getD x1.toNatClampNeg 0)
          first | refine ft_go mi_k30 2 135 [(4, .int m7), (3, .int ((a 9).getD (0 : Int32).toNatClampNeg 0)), (2, .int ((a 8).getD (0 : Int32).toNatClampNeg 0)), (0, .ref 1), (1, .int x1)] [.int (((a21 19).getD x1.toNatClampNeg 0) + m7), .int x1, .ref 19] (ku ig1 79 ((ig1 79) + m7)) a21 qg1 rg1 (by rfl) ?_ | refine ko_steps mi_in30 2 _ (135, [(4, .int m7), (3, .int ((a 9).getD (0 : Int32).toNatClampNeg 0)), (2, .int ((a 8).getD (0 : Int32).toNatClampNeg 0)), (0, .ref 1), (1, .int x1)], [.int (((a21 19).getD x1.toNatClampNeg 0) + m7), .int x1, .ref 19], (0, 0), ks (ku ig1 79 ((ig1 79) + m7)) a21 qg1 rg1) (by rfl) ?_
          refine ko_iast3 mi_k30.1 (n := 8) (c := 8) (ax := (0, 0, 0, 0, 0)) (mi_k30.2 _ _ (by rfl)) (by rfl) (ksG19 _ _ _ _) (ksA19 _ _ _ _) (hJ21.I.2.1 19) rfl (oz3 hp0.1) (oz1032 hp0.2) ?_
          intro a33 ea33 fa33
          have hJ33 := kG_a3 hJ21 19 rfl ea33 fa33 (kd_bd _)
          exact ft_ret mi_k30 (by rfl) (hP  _ _ _ _ hJ33 trivial)
        by_cases w34 : ((a 8).getD (0 : Int32).toNatClampNeg 0).toInt = 4
        ·
          refine ko_eq (x1 := (128, [(4, .int m7), (3, .int ((a 9).getD (0 : Int32).toNatClampNeg 0)), (2, .int ((a 8).getD (0 : Int32).toNatClampNeg 0)), (0, .ref 1), (1, .int x1)], [.int 4, .ref 15], (0, 0), ks (ku ig1 79 ((ig1 79) + m7)) a21 qg1 rg1)) (by rw [(kj_eq w34 (by decide) : ((a 8).getD (0 : Int32).toNatClampNeg 0) = 4)]) ?_
          first | refine ft_go mi_k30 3 131 [(4, .int m7), (3, .int ((a 9).getD (0 : Int32).toNatClampNeg 0)), (2, .int ((a 8).getD (0 : Int32).toNatClampNeg 0)), (0, .ref 1), (1, .int x1)] [.int x1, .ref 20, .int x1, .ref 20] (ku ig1 79 ((ig1 79) + m7)) a21 qg1 rg1 (by rfl) ?_ | refine ko_steps mi_in30 3 _ (131, [(4, .int m7), (3, .int ((a 9).getD (0 : Int32).toNatClampNeg 0)), (2, .int ((a 8).getD (0 : Int32).toNatClampNeg 0)), (0, .ref 1), (1, .int x1)], [.int x1, .ref 20, .int x1, .ref 20], (0, 0), ks (ku ig1 79 ((ig1 79) + m7)) a21 qg1 rg1) (by rfl) ?_
          refine ko_iald3 mi_k30.1 (n := 8) (c := 8) (ax := (0, 0, 0, 0, 0)) (mi_k30.2 _ _ (by rfl)) (by rfl) (ksG20 _ _ _ _) (hJ21.I.2.1 20) rfl (oz3 hp0.1) (oz1032 hp0.2) ?_
          have b35 : ((-2147483648 : Int) ≤ ((a21 20).getD x1.toNatClampNeg 0).toInt) ∧ (((a21 20).getD x1.toNatClampNeg 0).toInt ≤ 2147483647) := kd_bd ((a21 20).getD x1.toNatClampNeg 0)
          first | refine ft_go mi_k30 2 135 [(4, .int m7), (3, .int ((a 9).getD (0 : Int32).toNatClampNeg 0)), (2, .int ((a 8).getD (0 : Int32).toNatClampNeg 0)), (0, .ref 1), (1, .int x1)] [.int (((a21 20).getD x1.toNatClampNeg 0) + m7), .int x1, .ref 20] (ku ig1 79 ((ig1 79) + m7)) a21 qg1 rg1 (by rfl) ?_ | refine ko_steps mi_in30 2 _ (135, [(4, .int m7), (3, .int ((a 9).getD (0 : Int32).toNatClampNeg 0)), (2, .int ((a 8).getD (0 : Int32).toNatClampNeg 0)), (0, .ref 1), (1, .int x1)], [.int (((a21 20).getD x1.toNatClampNeg 0) + m7), .int x1, .ref 20], (0, 0), ks (ku ig1 79 ((ig1 79) + m7)) a21 qg1 rg1) (by rfl) ?_
          refine ko_iast3 mi_k30.1 (n := 8) (c := 8) (ax := (0, 0, 0, 0, 0)) (mi_k30.2 _ _ (by rfl)) (by rfl) (ksG20 _ _ _ _) (ksA20 _ _ _ _) (hJ21.I.2.1 20) rfl (oz3 hp0.1) (oz1032 hp0.2) ?_
          intro a36 ea36 fa36
          have hJ36 := kG_a3 hJ21 20 rfl ea36 fa36 (kd_bd _)
          exact ft_ret mi_k30 (by rfl) (hP  _ _ _ _ hJ36 trivial)
        by_cases w37 : ((a 8).getD (0 : Int32).toNatClampNeg 0).toInt = 5
        ·
          refine ko_eq (x1 := (128, [(4, .int m7), (3, .int ((a 9).getD (0 : Int32).toNatClampNeg 0)), (2, .int ((a 8).getD (0 : Int32).toNatClampNeg 0)), (0, .ref 1), (1, .int x1)], [.int 5, .ref 15], (0, 0), ks (ku ig1 79 ((ig1 79) + m7)) a21 qg1 rg1)) (by rw [(kj_eq w37 (by decide) : ((a 8).getD (0 : Int32).toNatClampNeg 0) = 5)]) ?_
          first | refine ft_go mi_k30 3 131 [(4, .int m7), (3, .int ((a 9).getD (0 : Int32).toNatClampNeg 0)), (2, .int ((a 8).getD (0 : Int32).toNatClampNeg 0)), (0, .ref 1), (1, .int x1)] [.int x1, .ref 21, .int x1, .ref 21] (ku ig1 79 ((ig1 79) + m7)) a21 qg1 rg1 (by rfl) ?_ | refine ko_steps mi_in30 3 _ (131, [(4, .int m7), (3, .int ((a 9).getD (0 : Int32).toNatClampNeg 0)), (2, .int ((a 8).getD (0 : Int32).toNatClampNeg 0)), (0, .ref 1), (1, .int x1)], [.int x1, .ref 21, .int x1, .ref 21], (0, 0), ks (ku ig1 79 ((ig1 79) + m7)) a21 qg1 rg1) (by rfl) ?_
          refine ko_iald3 mi_k30.1 (n := 8) (c := 8) (ax := (0, 0, 0, 0, 0)) (mi_k30.2 _ _ (by rfl)) (by rfl) (ksG21 _ _ _ _) (hJ21.I.2.1 21) rfl (oz3 hp0.1) (oz1032 hp0.2) ?_
          have b38 : ((-2147483648 : Int) ≤ ((a21 21).getD x1.toNatClampNeg 0).toInt) ∧ (((a21 21).getD x1.toNatClampNeg 0).toInt ≤ 2147483647) := kd_bd ((a21 21).getD x1.toNatClampNeg 0)
          first | refine ft_go mi_k30 2 135 [(4, .int m7), (3, .int ((a 9).getD (0 : Int32).toNatClampNeg 0)), (2, .int ((a 8).getD (0 : Int32).toNatClampNeg 0)), (0, .ref 1), (1, .int x1)] [.int (((a21 21).getD x1.toNatClampNeg 0) + m7), .int x1, .ref 21] (ku ig1 79 ((ig1 79) + m7)) a21 qg1 rg1 (by rfl) ?_ | refine ko_steps mi_in30 2 _ (135, [(4, .int m7), (3, .int ((a 9).getD (0 : Int32).toNatClampNeg 0)), (2, .int ((a 8).getD (0 : Int32).toNatClampNeg 0)), (0, .ref 1), (1, .int x1)], [.int (((a21 21).getD x1.toNatClampNeg 0) + m7), .int x1, .ref 21], (0, 0), ks (ku ig1 79 ((ig1 79) + m7)) a21 qg1 rg1) (by rfl) ?_
          refine ko_iast3 mi_k30.1 (n := 8) (c := 8) (ax := (0, 0, 0, 0, 0)) (mi_k30.2 _ _ (by rfl)) (by rfl) (ksG21 _ _ _ _) (ksA21 _ _ _ _) (hJ21.I.2.1 21) rfl (oz3 hp0.1) (oz1032 hp0.2) ?_
          intro a39 ea39 fa39
          have hJ39 := kG_a3 hJ21 21 rfl ea39 fa39 (kd_bd _)
          exact ft_ret mi_k30 (by rfl) (hP  _ _ _ _ hJ39 trivial)
        by_cases w40 : ((a 8).getD (0 : Int32).toNatClampNeg 0).toInt = 6
        ·
          refine ko_eq (x1 := (128, [(4, .int m7), (3, .int ((a 9).getD (0 : Int32).toNatClampNeg 0)), (2, .int ((a 8).getD (0 : Int32).toNatClampNeg 0)), (0, .ref 1), (1, .int x1)], [.int 6, .ref 15], (0, 0), ks (ku ig1 79 ((ig1 79) + m7)) a21 qg1 rg1)) (by rw [(kj_eq w40 (by decide) : ((a 8).getD (0 : Int32).toNatClampNeg 0) = 6)]) ?_
          first | refine ft_go mi_k30 3 131 [(4, .int m7), (3, .int ((a 9).getD (0 : Int32).toNatClampNeg 0)), (2, .int ((a 8).getD (0 : Int32).toNatClampNeg 0)), (0, .ref 1), (1, .int x1)] [.int x1, .ref 22, .int x1, .ref 22] (ku ig1 79 ((ig1 79) + m7)) a21 qg1 rg1 (by rfl) ?_ | refine ko_steps mi_in30 3 _ (131, [(4, .int m7), (3, .int ((a 9).getD (0 : Int32).toNatClampNeg 0)), (2, .int ((a 8).getD (0 : Int32).toNatClampNeg 0)), (0, .ref 1), (1, .int x1)], [.int x1, .ref 22, .int x1, .ref 22], (0, 0), ks (ku ig1 79 ((ig1 79) + m7)) a21 qg1 rg1) (by rfl) ?_
          refine ko_iald3 mi_k30.1 (n := 8) (c := 8) (ax := (0, 0, 0, 0, 0)) (mi_k30.2 _ _ (by rfl)) (by rfl) (ksG22 _ _ _ _) (hJ21.I.2.1 22) rfl (oz3 hp0.1) (oz1032 hp0.2) ?_
          have b41 : ((-2147483648 : Int) ≤ ((a21 22).getD x1.toNatClampNeg 0).toInt) ∧ (((a21 22).getD x1.toNatClampNeg 0).toInt ≤ 2147483647) := kd_bd ((a21 22).getD x1.toNatClampNeg 0)
          first | refine ft_go mi_k30 2 135 [(4, .int m7), (3, .int ((a 9).getD (0 : Int32).toNatClampNeg 0)), (2, .int ((a 8).getD (0 : Int32).toNatClampNeg 0)), (0, .ref 1), (1, .int x1)] [.int (((a21 22).getD x1.toNatClampNeg 0) + m7), .int x1, .ref 22] (ku ig1 79 ((ig1 79) + m7)) a21 qg1 rg1 (by rfl) ?_ | refine ko_steps mi_in30 2 _ (135, [(4, .int m7), (3, .int ((a 9).getD (0 : Int32).toNatClampNeg 0)), (2, .int ((a 8).getD (0 : Int32).toNatClampNeg 0)), (0, .ref 1), (1, .int x1)], [.int (((a21 22).getD x1.toNatClampNeg 0) + m7), .int x1, .ref 22], (0, 0), ks (ku ig1 79 ((ig1 79) + m7)) a21 qg1 rg1) (by rfl) ?_
          refine ko_iast3 mi_k30.1 (n := 8) (c := 8) (ax := (0, 0, 0, 0, 0)) (mi_k30.2 _ _ (by rfl)) (by rfl) (ksG22 _ _ _ _) (ksA22 _ _ _ _) (hJ21.I.2.1 22) rfl (oz3 hp0.1) (oz1032 hp0.2) ?_
          intro a42 ea42 fa42
          have hJ42 := kG_a3 hJ21 22 rfl ea42 fa42 (kd_bd _)
          exact ft_ret mi_k30 (by rfl) (hP  _ _ _ _ hJ42 trivial)
        by_cases w43 : ((a 8).getD (0 : Int32).toNatClampNeg 0).toInt = 7
        ·
          refine ko_eq (x1 := (128, [(4, .int m7), (3, .int ((a 9).getD (0 : Int32).toNatClampNeg 0)), (2, .int ((a 8).getD (0 : Int32).toNatClampNeg 0)), (0, .ref 1), (1, .int x1)], [.int 7, .ref 15], (0, 0), ks (ku ig1 79 ((ig1 79) + m7)) a21 qg1 rg1)) (by rw [(kj_eq w43 (by decide) : ((a 8).getD (0 : Int32).toNatClampNeg 0) = 7)]) ?_
          first | refine ft_go mi_k30 3 131 [(4, .int m7), (3, .int ((a 9).getD (0 : Int32).toNatClampNeg 0)), (2, .int ((a 8).getD (0 : Int32).toNatClampNeg 0)), (0, .ref 1), (1, .int x1)] [.int x1, .ref 23, .int x1, .ref 23] (ku ig1 79 ((ig1 79) + m7)) a21 qg1 rg1 (by rfl) ?_ | refine ko_steps mi_in30 3 _ (131, [(4, .int m7), (3, .int ((a 9).getD (0 : Int32).toNatClampNeg 0)), (2, .int ((a 8).getD (0 : Int32).toNatClampNeg 0)), (0, .ref 1), (1, .int x1)], [.int x1, .ref 23, .int x1, .ref 23], (0, 0), ks (ku ig1 79 ((ig1 79) + m7)) a21 qg1 rg1) (by rfl) ?_
          refine ko_iald3 mi_k30.1 (n := 8) (c := 8) (ax := (0, 0, 0, 0, 0)) (mi_k30.2 _ _ (by rfl)) (by rfl) (ksG23 _ _ _ _) (hJ21.I.2.1 23) rfl (oz3 hp0.1) (oz1032 hp0.2) ?_
          have b44 : ((-2147483648 : Int) ≤ ((a21 23).getD x1.toNatClampNeg 0).toInt) ∧ (((a21 23).getD x1.toNatClampNeg 0).toInt ≤ 2147483647) := kd_bd ((a21 23).getD x1.toNatClampNeg 0)
          first | refine ft_go mi_k30 2 135 [(4, .int m7), (3, .int ((a 9).getD (0 : Int32).toNatClampNeg 0)), (2, .int ((a 8).getD (0 : Int32).toNatClampNeg 0)), (0, .ref 1), (1, .int x1)] [.int (((a21 23).getD x1.toNatClampNeg 0) + m7), .int x1, .ref 23] (ku ig1 79 ((ig1 79) + m7)) a21 qg1 rg1 (by rfl) ?_ | refine ko_steps mi_in30 2 _ (135, [(4, .int m7), (3, .int ((a 9).getD (0 : Int32).toNatClampNeg 0)), (2, .int ((a 8).getD (0 : Int32).toNatClampNeg 0)), (0, .ref 1), (1, .int x1)], [.int (((a21 23).getD x1.toNatClampNeg 0) + m7), .int x1, .ref 23], (0, 0), ks (ku ig1 79 ((ig1 79) + m7)) a21 qg1 rg1) (by rfl) ?_
          refine ko_iast3 mi_k30.1 (n := 8) (c := 8) (ax := (0, 0, 0, 0, 0)) (mi_k30.2 _ _ (by rfl)) (by rfl) (ksG23 _ _ _ _) (ksA23 _ _ _ _) (hJ21.I.2.1 23) rfl (oz3 hp0.1) (oz1032 hp0.2) ?_
          intro a45 ea45 fa45
          have hJ45 := kG_a3 hJ21 23 rfl ea45 fa45 (kd_bd _)
          exact ft_ret mi_k30 (by rfl) (hP  _ _ _ _ hJ45 trivial)
        exact (oz1051 fig1_64.2 w22 w25 w28 w31 w34 w37 w40 w43 z6.1 z6.2).elim
      ·
        subst eg5
        have fig1_64 : ((0 : Int) ≤ (ig1 64).toInt) ∧ ((ig1 64).toInt ≤ 8) := hGg1.I.1 64
        have fi_64 : ((0 : Int) ≤ (i 64).toInt) ∧ ((i 64).toInt ≤ 8) := hG.I.1 64
        have efig1_64 : (ig1 64).toInt = (i 64).toInt := kg1.ti 64 rfl
        have z46 : ¬ (((0 : Int) ≤ ((a 8).getD (0 : Int32).toNatClampNeg 0).toInt) ∧ (((a 8).getD (0 : Int32).toNatClampNeg 0).toInt < (ig1 64).toInt)) := hg5
        first | refine ft_go mi_k30 1 54 [(3, .int ((a 9).getD (0 : Int32).toNatClampNeg 0)), (2, .int ((a 8).getD (0 : Int32).toNatClampNeg 0)), (0, .ref 1), (1, .int x1)] [] ig1 ag1 qg1 rg1 (by rfl) ?_ | refine ko_steps mi_in30 1 _ (54, [(3, .int ((a 9).getD (0 : Int32).toNatClampNeg 0)), (2, .int ((a 8).getD (0 : Int32).toNatClampNeg 0)), (0, .ref 1), (1, .int x1)], [], (0, 0), ks ig1 ag1 qg1 rg1) (by rfl) ?_
        exact ft_ret mi_k30 (by rfl) (hP  _ _ _ _ hGg1 trivial)
  ·
    have c47 : (ig1 78).toInt = (8 : Int32).toInt := kd_neF c; clear c
    have hJ48 := kG_i hGg1 78 rfl (v := ((a 8).getD (0 : Int32).toNatClampNeg 0)) (kd_bd _)
    first | refine ft_go mi_k30 5 43 [(3, .int ((a 9).getD (0 : Int32).toNatClampNeg 0)), (2, .int ((a 8).getD (0 : Int32).toNatClampNeg 0)), (0, .ref 1), (1, .int x1)] [.int x1, .int ((a 8).getD (0 : Int32).toNatClampNeg 0)] (ku ig1 78 ((a 8).getD (0 : Int32).toNatClampNeg 0)) ag1 qg1 rg1 (by rfl) ?_ | refine ko_steps mi_in30 5 _ (43, [(3, .int ((a 9).getD (0 : Int32).toNatClampNeg 0)), (2, .int ((a 8).getD (0 : Int32).toNatClampNeg 0)), (0, .ref 1), (1, .int x1)], [.int x1, .int ((a 8).getD (0 : Int32).toNatClampNeg 0)], (0, 0), ks (ku ig1 78 ((a 8).getD (0 : Int32).toNatClampNeg 0)) ag1 qg1 rg1) (by rfl) ?_
    refine ft_if mi_k30 (((a 8).getD (0 : Int32).toNatClampNeg 0) == x1) 54 46 [(3, .int ((a 9).getD (0 : Int32).toNatClampNeg 0)), (2, .int ((a 8).getD (0 : Int32).toNatClampNeg 0)), (0, .ref 1), (1, .int x1)] [] (by rfl) (fun c => ?_) (fun c => ?_)
    ·
      have c49 : ((a 8).getD (0 : Int32).toNatClampNeg 0).toInt = x1.toInt := kd_eq c; clear c
      exact ft_ret mi_k30 (by rfl) (hP  _ _ _ _ hJ48 trivial)
    ·
      have c50 : ((a 8).getD (0 : Int32).toNatClampNeg 0).toInt ≠ x1.toInt := kd_eqF c; clear c
      first | refine ft_go mi_k30 2 48 [(3, .int ((a 9).getD (0 : Int32).toNatClampNeg 0)), (2, .int ((a 8).getD (0 : Int32).toNatClampNeg 0)), (0, .ref 1), (1, .int x1)] [.int ((a 8).getD (0 : Int32).toNatClampNeg 0), .ref 1] (ku ig1 78 ((a 8).getD (0 : Int32).toNatClampNeg 0)) ag1 qg1 rg1 (by rfl) ?_ | refine ko_steps mi_in30 2 _ (48, [(3, .int ((a 9).getD (0 : Int32).toNatClampNeg 0)), (2, .int ((a 8).getD (0 : Int32).toNatClampNeg 0)), (0, .ref 1), (1, .int x1)], [.int ((a 8).getD (0 : Int32).toNatClampNeg 0), .ref 1], (0, 0), ks (ku ig1 78 ((a 8).getD (0 : Int32).toNatClampNeg 0)) ag1 qg1 rg1) (by rfl) ?_
      refine ko_callPI mi_k30.1 (pc := 48) (ls := [(3, .int ((a 9).getD (0 : Int32).toNatClampNeg 0)), (2, .int ((a 8).getD (0 : Int32).toNatClampNeg 0)), (0, .ref 1), (1, .int x1)]) (st := [.int ((a 8).getD (0 : Int32).toNatClampNeg 0), .ref 1]) (h := ks (ku ig1 78 ((a 8).getD (0 : Int32).toNatClampNeg 0)) ag1 qg1 rg1) (i := (.invokevirtual 85, 3, 24, 0, 9, 0, 165)) (mi_k30.2 _ _ (by rfl)) (ft_invS mi_pq24 (by rfl)) (cy := mi_c24) mi_pq24 rfl (kc24_1 hJ48.I hJ48.R ((a 8).getD (0 : Int32).toNatClampNeg 0)) (by decide) ?_
      intro vg51 hg51
      rcases hg51 with ⟨eg51, hg51⟩ | ⟨eg51, hg51⟩
      ·
        subst eg51
        have fig1_64 : ((0 : Int) ≤ (ig1 64).toInt) ∧ ((ig1 64).toInt ≤ 8) := hJ48.I.1 64
        have fi_64 : ((0 : Int) ≤ (i 64).toInt) ∧ ((i 64).toInt ≤ 8) := hG.I.1 64
        have efig1_64 : (ig1 64).toInt = (i 64).toInt := kg1.ti 64 rfl
        have z52 : ((0 : Int) ≤ ((a 8).getD (0 : Int32).toNatClampNeg 0).toInt) ∧ (((a 8).getD (0 : Int32).toNatClampNeg 0).toInt < (ig1 64).toInt) := hg51
        first | refine ft_go mi_k30 5 61 [(3, .int ((a 9).getD (0 : Int32).toNatClampNeg 0)), (2, .int ((a 8).getD (0 : Int32).toNatClampNeg 0)), (0, .ref 1), (1, .int x1)] [.int ((a 8).getD (0 : Int32).toNatClampNeg 0), .ref 2, .int ((a 9).getD (0 : Int32).toNatClampNeg 0)] (ku ig1 78 ((a 8).getD (0 : Int32).toNatClampNeg 0)) ag1 qg1 rg1 (by rfl) ?_ | refine ko_steps mi_in30 5 _ (61, [(3, .int ((a 9).getD (0 : Int32).toNatClampNeg 0)), (2, .int ((a 8).getD (0 : Int32).toNatClampNeg 0)), (0, .ref 1), (1, .int x1)], [.int ((a 8).getD (0 : Int32).toNatClampNeg 0), .ref 2, .int ((a 9).getD (0 : Int32).toNatClampNeg 0)], (0, 0), ks (ku ig1 78 ((a 8).getD (0 : Int32).toNatClampNeg 0)) ag1 qg1 rg1) (by rfl) ?_
        refine ko_iald3 mi_k30.1 (n := 8) (c := 8) (ax := (0, 0, 0, 0, 0)) (mi_k30.2 _ _ (by rfl)) (by rfl) (ksG2 _ _ _ _) (hJ48.I.2.1 2) rfl (oz3 z52.1) (oz974 fig1_64.2 z52.2) ?_
        have m54 : (((bif decide (((ag1 2).getD ((a 8).getD (0 : Int32).toNatClampNeg 0).toNatClampNeg 0) < ((a 9).getD (0 : Int32).toNatClampNeg 0)) then ((ag1 2).getD ((a 8).getD (0 : Int32).toNatClampNeg 0).toNatClampNeg 0) else ((a 9).getD (0 : Int32).toNatClampNeg 0)).toInt ≤ ((a 9).getD (0 : Int32).toNatClampNeg 0).toInt) ∧ ((bif decide (((ag1 2).getD ((a 8).getD (0 : Int32).toNatClampNeg 0).toNatClampNeg 0) < ((a 9).getD (0 : Int32).toNatClampNeg 0)) then ((ag1 2).getD ((a 8).getD (0 : Int32).toNatClampNeg 0).toNatClampNeg 0) else ((a 9).getD (0 : Int32).toNatClampNeg 0)).toInt ≤ ((ag1 2).getD ((a 8).getD (0 : Int32).toNatClampNeg 0).toNatClampNeg 0).toInt)) ∧ ((bif decide (((ag1 2).getD ((a 8).getD (0 : Int32).toNatClampNeg 0).toNatClampNeg 0) < ((a 9).getD (0 : Int32).toNatClampNeg 0)) then ((ag1 2).getD ((a 8).getD (0 : Int32).toNatClampNeg 0).toNatClampNeg 0) else ((a 9).getD (0 : Int32).toNatClampNeg 0)).toInt = ((a 9).getD (0 : Int32).toNatClampNeg 0).toInt ∨ (bif decide (((ag1 2).getD ((a 8).getD (0 : Int32).toNatClampNeg 0).toNatClampNeg 0) < ((a 9).getD (0 : Int32).toNatClampNeg 0)) then ((ag1 2).getD ((a 8).getD (0 : Int32).toNatClampNeg 0).toNatClampNeg 0) else ((a 9).getD (0 : Int32).toNatClampNeg 0)).toInt = ((ag1 2).getD ((a 8).getD (0 : Int32).toNatClampNeg 0).toNatClampNeg 0).toInt) := kd_min
        first | refine ft_go mi_k30 1 65 [(3, .int ((a 9).getD (0 : Int32).toNatClampNeg 0)), (2, .int ((a 8).getD (0 : Int32).toNatClampNeg 0)), (0, .ref 1), (1, .int x1)] [.int (bif decide (((ag1 2).getD ((a 8).getD (0 : Int32).toNatClampNeg 0).toNatClampNeg 0) < ((a 9).getD (0 : Int32).toNatClampNeg 0)) then ((ag1 2).getD ((a 8).getD (0 : Int32).toNatClampNeg 0).toNatClampNeg 0) else ((a 9).getD (0 : Int32).toNatClampNeg 0))] (ku ig1 78 ((a 8).getD (0 : Int32).toNatClampNeg 0)) ag1 qg1 rg1 (by rfl) ?_ | refine ko_steps mi_in30 1 _ (65, [(3, .int ((a 9).getD (0 : Int32).toNatClampNeg 0)), (2, .int ((a 8).getD (0 : Int32).toNatClampNeg 0)), (0, .ref 1), (1, .int x1)], [.int (bif decide (((ag1 2).getD ((a 8).getD (0 : Int32).toNatClampNeg 0).toNatClampNeg 0) < ((a 9).getD (0 : Int32).toNatClampNeg 0)) then ((ag1 2).getD ((a 8).getD (0 : Int32).toNatClampNeg 0).toNatClampNeg 0) else ((a 9).getD (0 : Int32).toNatClampNeg 0))], (0, 0), ks (ku ig1 78 ((a 8).getD (0 : Int32).toNatClampNeg 0)) ag1 qg1 rg1) (by rfl) ?_
        generalize (bif decide (((ag1 2).getD ((a 8).getD (0 : Int32).toNatClampNeg 0).toNatClampNeg 0) < ((a 9).getD (0 : Int32).toNatClampNeg 0)) then ((ag1 2).getD ((a 8).getD (0 : Int32).toNatClampNeg 0).toNatClampNeg 0) else ((a 9).getD (0 : Int32).toNatClampNeg 0)) = m53 at m54 ⊢
        first | refine ft_go mi_k30 5 73 [(4, .int m53), (3, .int ((a 9).getD (0 : Int32).toNatClampNeg 0)), (2, .int ((a 8).getD (0 : Int32).toNatClampNeg 0)), (0, .ref 1), (1, .int x1)] [.int ((a 8).getD (0 : Int32).toNatClampNeg 0), .ref 2, .int ((a 8).getD (0 : Int32).toNatClampNeg 0), .ref 2] (ku ig1 78 ((a 8).getD (0 : Int32).toNatClampNeg 0)) ag1 qg1 rg1 (by rfl) ?_ | refine ko_steps mi_in30 5 _ (73, [(4, .int m53), (3, .int ((a 9).getD (0 : Int32).toNatClampNeg 0)), (2, .int ((a 8).getD (0 : Int32).toNatClampNeg 0)), (0, .ref 1), (1, .int x1)], [.int ((a 8).getD (0 : Int32).toNatClampNeg 0), .ref 2, .int ((a 8).getD (0 : Int32).toNatClampNeg 0), .ref 2], (0, 0), ks (ku ig1 78 ((a 8).getD (0 : Int32).toNatClampNeg 0)) ag1 qg1 rg1) (by rfl) ?_
        refine ko_iald3 mi_k30.1 (n := 8) (c := 8) (ax := (0, 0, 0, 0, 0)) (mi_k30.2 _ _ (by rfl)) (by rfl) (ksG2 _ _ _ _) (hJ48.I.2.1 2) rfl (oz3 z52.1) (oz974 fig1_64.2 z52.2) ?_
        have b55 : ((-2147483648 : Int) ≤ ((ag1 2).getD ((a 8).getD (0 : Int32).toNatClampNeg 0).toNatClampNeg 0).toInt) ∧ (((ag1 2).getD ((a 8).getD (0 : Int32).toNatClampNeg 0).toNatClampNeg 0).toInt ≤ 2147483647) := kd_bd ((ag1 2).getD ((a 8).getD (0 : Int32).toNatClampNeg 0).toNatClampNeg 0)
        have b56 : ((-2147483648 : Int) ≤ m53.toInt) ∧ (m53.toInt ≤ 2147483647) := kd_bd m53
        first | refine ft_go mi_k30 2 77 [(4, .int m53), (3, .int ((a 9).getD (0 : Int32).toNatClampNeg 0)), (2, .int ((a 8).getD (0 : Int32).toNatClampNeg 0)), (0, .ref 1), (1, .int x1)] [.int (((ag1 2).getD ((a 8).getD (0 : Int32).toNatClampNeg 0).toNatClampNeg 0) - m53), .int ((a 8).getD (0 : Int32).toNatClampNeg 0), .ref 2] (ku ig1 78 ((a 8).getD (0 : Int32).toNatClampNeg 0)) ag1 qg1 rg1 (by rfl) ?_ | refine ko_steps mi_in30 2 _ (77, [(4, .int m53), (3, .int ((a 9).getD (0 : Int32).toNatClampNeg 0)), (2, .int ((a 8).getD (0 : Int32).toNatClampNeg 0)), (0, .ref 1), (1, .int x1)], [.int (((ag1 2).getD ((a 8).getD (0 : Int32).toNatClampNeg 0).toNatClampNeg 0) - m53), .int ((a 8).getD (0 : Int32).toNatClampNeg 0), .ref 2], (0, 0), ks (ku ig1 78 ((a 8).getD (0 : Int32).toNatClampNeg 0)) ag1 qg1 rg1) (by rfl) ?_
        refine ko_iast3 mi_k30.1 (n := 8) (c := 8) (ax := (0, 0, 0, 0, 0)) (mi_k30.2 _ _ (by rfl)) (by rfl) (ksG2 _ _ _ _) (ksA2 _ _ _ _) (hJ48.I.2.1 2) rfl (oz3 z52.1) (oz974 fig1_64.2 z52.2) ?_
        intro a57 ea57 fa57
        have hJ57 := kG_a3 hJ48 2 rfl ea57 fa57 (kd_bd _)
        first | refine ft_go mi_k30 7 91 [(4, .int m53), (3, .int ((a 9).getD (0 : Int32).toNatClampNeg 0)), (2, .int ((a 8).getD (0 : Int32).toNatClampNeg 0)), (0, .ref 1), (1, .int x1)] [.int x1, .ref 2, .int 999, .int x1, .ref 2] (ku ig1 78 ((a 8).getD (0 : Int32).toNatClampNeg 0)) a57 qg1 rg1 (by rfl) ?_ | refine ko_steps mi_in30 7 _ (91, [(4, .int m53), (3, .int ((a 9).getD (0 : Int32).toNatClampNeg 0)), (2, .int ((a 8).getD (0 : Int32).toNatClampNeg 0)), (0, .ref 1), (1, .int x1)], [.int x1, .ref 2, .int 999, .int x1, .ref 2], (0, 0), ks (ku ig1 78 ((a 8).getD (0 : Int32).toNatClampNeg 0)) a57 qg1 rg1) (by rfl) ?_
        refine ko_iald3 mi_k30.1 (n := 8) (c := 8) (ax := (0, 0, 0, 0, 0)) (mi_k30.2 _ _ (by rfl)) (by rfl) (ksG2 _ _ _ _) (hJ57.I.2.1 2) rfl (oz3 hp0.1) (oz1032 hp0.2) ?_
        have b58 : ((-2147483648 : Int) ≤ ((a57 2).getD x1.toNatClampNeg 0).toInt) ∧ (((a57 2).getD x1.toNatClampNeg 0).toInt ≤ 2147483647) := kd_bd ((a57 2).getD x1.toNatClampNeg 0)
        first | refine ft_go mi_k30 2 95 [(4, .int m53), (3, .int ((a 9).getD (0 : Int32).toNatClampNeg 0)), (2, .int ((a 8).getD (0 : Int32).toNatClampNeg 0)), (0, .ref 1), (1, .int x1)] [.int (((a57 2).getD x1.toNatClampNeg 0) + m53), .int 999, .int x1, .ref 2] (ku ig1 78 ((a 8).getD (0 : Int32).toNatClampNeg 0)) a57 qg1 rg1 (by rfl) ?_ | refine ko_steps mi_in30 2 _ (95, [(4, .int m53), (3, .int ((a 9).getD (0 : Int32).toNatClampNeg 0)), (2, .int ((a 8).getD (0 : Int32).toNatClampNeg 0)), (0, .ref 1), (1, .int x1)], [.int (((a57 2).getD x1.toNatClampNeg 0) + m53), .int 999, .int x1, .ref 2], (0, 0), ks (ku ig1 78 ((a 8).getD (0 : Int32).toNatClampNeg 0)) a57 qg1 rg1) (by rfl) ?_
        have m60 : (((bif decide ((((a57 2).getD x1.toNatClampNeg 0) + m53) < 999) then (((a57 2).getD x1.toNatClampNeg 0) + m53) else 999).toInt ≤ (999 : Int32).toInt) ∧ ((bif decide ((((a57 2).getD x1.toNatClampNeg 0) + m53) < 999) then (((a57 2).getD x1.toNatClampNeg 0) + m53) else 999).toInt ≤ (((a57 2).getD x1.toNatClampNeg 0) + m53).toInt)) ∧ ((bif decide ((((a57 2).getD x1.toNatClampNeg 0) + m53) < 999) then (((a57 2).getD x1.toNatClampNeg 0) + m53) else 999).toInt = (999 : Int32).toInt ∨ (bif decide ((((a57 2).getD x1.toNatClampNeg 0) + m53) < 999) then (((a57 2).getD x1.toNatClampNeg 0) + m53) else 999).toInt = (((a57 2).getD x1.toNatClampNeg 0) + m53).toInt) := kd_min
        first | refine ft_go mi_k30 1 98 [(4, .int m53), (3, .int ((a 9).getD (0 : Int32).toNatClampNeg 0)), (2, .int ((a 8).getD (0 : Int32).toNatClampNeg 0)), (0, .ref 1), (1, .int x1)] [.int (bif decide ((((a57 2).getD x1.toNatClampNeg 0) + m53) < 999) then (((a57 2).getD x1.toNatClampNeg 0) + m53) else 999), .int x1, .ref 2] (ku ig1 78 ((a 8).getD (0 : Int32).toNatClampNeg 0)) a57 qg1 rg1 (by rfl) ?_ | refine ko_steps mi_in30 1 _ (98, [(4, .int m53), (3, .int ((a 9).getD (0 : Int32).toNatClampNeg 0)), (2, .int ((a 8).getD (0 : Int32).toNatClampNeg 0)), (0, .ref 1), (1, .int x1)], [.int (bif decide ((((a57 2).getD x1.toNatClampNeg 0) + m53) < 999) then (((a57 2).getD x1.toNatClampNeg 0) + m53) else 999), .int x1, .ref 2], (0, 0), ks (ku ig1 78 ((a 8).getD (0 : Int32).toNatClampNeg 0)) a57 qg1 rg1) (by rfl) ?_
        generalize (bif decide ((((a57 2).getD x1.toNatClampNeg 0) + m53) < 999) then (((a57 2).getD x1.toNatClampNeg 0) + m53) else 999) = m59 at m60 ⊢
        refine ko_iast3 mi_k30.1 (n := 8) (c := 8) (ax := (0, 0, 0, 0, 0)) (mi_k30.2 _ _ (by rfl)) (by rfl) (ksG2 _ _ _ _) (ksA2 _ _ _ _) (hJ57.I.2.1 2) rfl (oz3 hp0.1) (oz1032 hp0.2) ?_
        intro a61 ea61 fa61
        have hJ61 := kG_a3 hJ57 2 rfl ea61 fa61 (kd_bd _)
        have efig1_79 : (ig1 79).toInt = (i 79).toInt := kg1.ti 79 rfl
        have b62 : ((-2147483648 : Int) ≤ (ig1 79).toInt) ∧ ((ig1 79).toInt ≤ 2147483647) := kd_bd (ig1 79)
        have hJ63 := kG_i hJ61 79 rfl (v := ((ig1 79) + m53)) (kd_bd _)
        first | refine ft_go mi_k30 10 116 [(4, .int m53), (3, .int ((a 9).getD (0 : Int32).toNatClampNeg 0)), (2, .int ((a 8).getD (0 : Int32).toNatClampNeg 0)), (0, .ref 1), (1, .int x1)] [.int 2, .ref 14, .int 2, .ref 14] (ku (ku ig1 78 ((a 8).getD (0 : Int32).toNatClampNeg 0)) 79 ((ig1 79) + m53)) a61 qg1 rg1 (by rfl) ?_ | refine ko_steps mi_in30 10 _ (116, [(4, .int m53), (3, .int ((a 9).getD (0 : Int32).toNatClampNeg 0)), (2, .int ((a 8).getD (0 : Int32).toNatClampNeg 0)), (0, .ref 1), (1, .int x1)], [.int 2, .ref 14, .int 2, .ref 14], (0, 0), ks (ku (ku ig1 78 ((a 8).getD (0 : Int32).toNatClampNeg 0)) 79 ((ig1 79) + m53)) a61 qg1 rg1) (by rfl) ?_
        refine ko_iald3 mi_k30.1 (n := 5) (c := 5) (ax := (0, 0, 0, 0, 0)) (mi_k30.2 _ _ (by rfl)) (by rfl) (ksG14 _ _ _ _) (hJ63.I.2.1 14) rfl (oz256 kn2) (oz549 kn2) ?_
        have b64 : ((-2147483648 : Int) ≤ ((a 9).getD (0 : Int32).toNatClampNeg 0).toInt) ∧ (((a 9).getD (0 : Int32).toNatClampNeg 0).toInt ≤ 2147483647) := kd_bd ((a 9).getD (0 : Int32).toNatClampNeg 0)
        have b65 : ((-2147483648 : Int) ≤ ((a61 14).getD (2 : Int32).toNatClampNeg 0).toInt) ∧ (((a61 14).getD (2 : Int32).toNatClampNeg 0).toInt ≤ 2147483647) := kd_bd ((a61 14).getD (2 : Int32).toNatClampNeg 0)
        have b66 : ((-2147483648 : Int) ≤ (((a 9).getD (0 : Int32).toNatClampNeg 0) - m53).toInt) ∧ ((((a 9).getD (0 : Int32).toNatClampNeg 0) - m53).toInt ≤ 2147483647) := kd_bd (((a 9).getD (0 : Int32).toNatClampNeg 0) - m53)
        first | refine ft_go mi_k30 4 122 [(4, .int m53), (3, .int ((a 9).getD (0 : Int32).toNatClampNeg 0)), (2, .int ((a 8).getD (0 : Int32).toNatClampNeg 0)), (0, .ref 1), (1, .int x1)] [.int (((a61 14).getD (2 : Int32).toNatClampNeg 0) + (((a 9).getD (0 : Int32).toNatClampNeg 0) - m53)), .int 2, .ref 14] (ku (ku ig1 78 ((a 8).getD (0 : Int32).toNatClampNeg 0)) 79 ((ig1 79) + m53)) a61 qg1 rg1 (by rfl) ?_ | refine ko_steps mi_in30 4 _ (122, [(4, .int m53), (3, .int ((a 9).getD (0 : Int32).toNatClampNeg 0)), (2, .int ((a 8).getD (0 : Int32).toNatClampNeg 0)), (0, .ref 1), (1, .int x1)], [.int (((a61 14).getD (2 : Int32).toNatClampNeg 0) + (((a 9).getD (0 : Int32).toNatClampNeg 0) - m53)), .int 2, .ref 14], (0, 0), ks (ku (ku ig1 78 ((a 8).getD (0 : Int32).toNatClampNeg 0)) 79 ((ig1 79) + m53)) a61 qg1 rg1) (by rfl) ?_
        refine ko_iast3 mi_k30.1 (n := 5) (c := 5) (ax := (0, 0, 0, 0, 0)) (mi_k30.2 _ _ (by rfl)) (by rfl) (ksG14 _ _ _ _) (ksA14 _ _ _ _) (hJ63.I.2.1 14) rfl (oz256 kn2) (oz549 kn2) ?_
        intro a67 ea67 fa67
        have hJ67 := kG_a3 hJ63 14 rfl ea67 fa67 (kd_bd _)
        first | refine ft_go mi_k30 3 128 [(4, .int m53), (3, .int ((a 9).getD (0 : Int32).toNatClampNeg 0)), (2, .int ((a 8).getD (0 : Int32).toNatClampNeg 0)), (0, .ref 1), (1, .int x1)] [.int ((a 8).getD (0 : Int32).toNatClampNeg 0), .ref 15] (ku (ku ig1 78 ((a 8).getD (0 : Int32).toNatClampNeg 0)) 79 ((ig1 79) + m53)) a67 qg1 rg1 (by rfl) ?_ | refine ko_steps mi_in30 3 _ (128, [(4, .int m53), (3, .int ((a 9).getD (0 : Int32).toNatClampNeg 0)), (2, .int ((a 8).getD (0 : Int32).toNatClampNeg 0)), (0, .ref 1), (1, .int x1)], [.int ((a 8).getD (0 : Int32).toNatClampNeg 0), .ref 15], (0, 0), ks (ku (ku ig1 78 ((a 8).getD (0 : Int32).toNatClampNeg 0)) 79 ((ig1 79) + m53)) a67 qg1 rg1) (by rfl) ?_
        by_cases w68 : ((a 8).getD (0 : Int32).toNatClampNeg 0).toInt = 0
        ·
          refine ko_eq (x1 := (128, [(4, .int m53), (3, .int ((a 9).getD (0 : Int32).toNatClampNeg 0)), (2, .int ((a 8).getD (0 : Int32).toNatClampNeg 0)), (0, .ref 1), (1, .int x1)], [.int 0, .ref 15], (0, 0), ks (ku (ku ig1 78 ((a 8).getD (0 : Int32).toNatClampNeg 0)) 79 ((ig1 79) + m53)) a67 qg1 rg1)) (by rw [(kj_eq w68 (by decide) : ((a 8).getD (0 : Int32).toNatClampNeg 0) = 0)]) ?_
          first | refine ft_go mi_k30 3 131 [(4, .int m53), (3, .int ((a 9).getD (0 : Int32).toNatClampNeg 0)), (2, .int ((a 8).getD (0 : Int32).toNatClampNeg 0)), (0, .ref 1), (1, .int x1)] [.int x1, .ref 16, .int x1, .ref 16] (ku (ku ig1 78 ((a 8).getD (0 : Int32).toNatClampNeg 0)) 79 ((ig1 79) + m53)) a67 qg1 rg1 (by rfl) ?_ | refine ko_steps mi_in30 3 _ (131, [(4, .int m53), (3, .int ((a 9).getD (0 : Int32).toNatClampNeg 0)), (2, .int ((a 8).getD (0 : Int32).toNatClampNeg 0)), (0, .ref 1), (1, .int x1)], [.int x1, .ref 16, .int x1, .ref 16], (0, 0), ks (ku (ku ig1 78 ((a 8).getD (0 : Int32).toNatClampNeg 0)) 79 ((ig1 79) + m53)) a67 qg1 rg1) (by rfl) ?_
          refine ko_iald3 mi_k30.1 (n := 8) (c := 8) (ax := (0, 0, 0, 0, 0)) (mi_k30.2 _ _ (by rfl)) (by rfl) (ksG16 _ _ _ _) (hJ67.I.2.1 16) rfl (oz3 hp0.1) (oz1032 hp0.2) ?_
          have b69 : ((-2147483648 : Int) ≤ ((a67 16).getD x1.toNatClampNeg 0).toInt) ∧ (((a67 16).getD x1.toNatClampNeg 0).toInt ≤ 2147483647) := kd_bd ((a67 16).getD x1.toNatClampNeg 0)
          first | refine ft_go mi_k30 2 135 [(4, .int m53), (3, .int ((a 9).getD (0 : Int32).toNatClampNeg 0)), (2, .int ((a 8).getD (0 : Int32).toNatClampNeg 0)), (0, .ref 1), (1, .int x1)] [.int (((a67 16).getD x1.toNatClampNeg 0) + m53), .int x1, .ref 16] (ku (ku ig1 78 ((a 8).getD (0 : Int32).toNatClampNeg 0)) 79 ((ig1 79) + m53)) a67 qg1 rg1 (by rfl) ?_ | refine ko_steps mi_in30 2 _ (135, [(4, .int m53), (3, .int ((a 9).getD (0 : Int32).toNatClampNeg 0)), (2, .int ((a 8).getD (0 : Int32).toNatClampNeg 0)), (0, .ref 1), (1, .int x1)], [.int (((a67 16).getD x1.toNatClampNeg 0) + m53), .int x1, .ref 16], (0, 0), ks (ku (ku ig1 78 ((a 8).getD (0 : Int32).toNatClampNeg 0)) 79 ((ig1 79) + m53)) a67 qg1 rg1) (by rfl) ?_
          refine ko_iast3 mi_k30.1 (n := 8) (c := 8) (ax := (0, 0, 0, 0, 0)) (mi_k30.2 _ _ (by rfl)) (by rfl) (ksG16 _ _ _ _) (ksA16 _ _ _ _) (hJ67.I.2.1 16) rfl (oz3 hp0.1) (oz1032 hp0.2) ?_
          intro a70 ea70 fa70
          have hJ70 := kG_a3 hJ67 16 rfl ea70 fa70 (kd_bd _)
          exact ft_ret mi_k30 (by rfl) (hP  _ _ _ _ hJ70 trivial)
        by_cases w71 : ((a 8).getD (0 : Int32).toNatClampNeg 0).toInt = 1
        ·
          refine ko_eq (x1 := (128, [(4, .int m53), (3, .int ((a 9).getD (0 : Int32).toNatClampNeg 0)), (2, .int ((a 8).getD (0 : Int32).toNatClampNeg 0)), (0, .ref 1), (1, .int x1)], [.int 1, .ref 15], (0, 0), ks (ku (ku ig1 78 ((a 8).getD (0 : Int32).toNatClampNeg 0)) 79 ((ig1 79) + m53)) a67 qg1 rg1)) (by rw [(kj_eq w71 (by decide) : ((a 8).getD (0 : Int32).toNatClampNeg 0) = 1)]) ?_
          first | refine ft_go mi_k30 3 131 [(4, .int m53), (3, .int ((a 9).getD (0 : Int32).toNatClampNeg 0)), (2, .int ((a 8).getD (0 : Int32).toNatClampNeg 0)), (0, .ref 1), (1, .int x1)] [.int x1, .ref 17, .int x1, .ref 17] (ku (ku ig1 78 ((a 8).getD (0 : Int32).toNatClampNeg 0)) 79 ((ig1 79) + m53)) a67 qg1 rg1 (by rfl) ?_ | refine ko_steps mi_in30 3 _ (131, [(4, .int m53), (3, .int ((a 9).getD (0 : Int32).toNatClampNeg 0)), (2, .int ((a 8).getD (0 : Int32).toNatClampNeg 0)), (0, .ref 1), (1, .int x1)], [.int x1, .ref 17, .int x1, .ref 17], (0, 0), ks (ku (ku ig1 78 ((a 8).getD (0 : Int32).toNatClampNeg 0)) 79 ((ig1 79) + m53)) a67 qg1 rg1) (by rfl) ?_
          refine ko_iald3 mi_k30.1 (n := 8) (c := 8) (ax := (0, 0, 0, 0, 0)) (mi_k30.2 _ _ (by rfl)) (by rfl) (ksG17 _ _ _ _) (hJ67.I.2.1 17) rfl (oz3 hp0.1) (oz1032 hp0.2) ?_
          have b72 : ((-2147483648 : Int) ≤ ((a67 17).getD x1.toNatClampNeg 0).toInt) ∧ (((a67 17).getD x1.toNatClampNeg 0).toInt ≤ 2147483647) := kd_bd ((a67 17).getD x1.toNatClampNeg 0)
          first | refine ft_go mi_k30 2 135 [(4, .int m53), (3, .int ((a 9).getD (0 : Int32).toNatClampNeg 0)), (2, .int ((a 8).getD (0 : Int32).toNatClampNeg 0)), (0, .ref 1), (1, .int x1)] [.int (((a67 17).getD x1.toNatClampNeg 0) + m53), .int x1, .ref 17] (ku (ku ig1 78 ((a 8).getD (0 : Int32).toNatClampNeg 0)) 79 ((ig1 79) + m53)) a67 qg1 rg1 (by rfl) ?_ | refine ko_steps mi_in30 2 _ (135, [(4, .int m53), (3, .int ((a 9).getD (0 : Int32).toNatClampNeg 0)), (2, .int ((a 8).getD (0 : Int32).toNatClampNeg 0)), (0, .ref 1), (1, .int x1)], [.int (((a67 17).getD x1.toNatClampNeg 0) + m53), .int x1, .ref 17], (0, 0), ks (ku (ku ig1 78 ((a 8).getD (0 : Int32).toNatClampNeg 0)) 79 ((ig1 79) + m53)) a67 qg1 rg1) (by rfl) ?_
          refine ko_iast3 mi_k30.1 (n := 8) (c := 8) (ax := (0, 0, 0, 0, 0)) (mi_k30.2 _ _ (by rfl)) (by rfl) (ksG17 _ _ _ _) (ksA17 _ _ _ _) (hJ67.I.2.1 17) rfl (oz3 hp0.1) (oz1032 hp0.2) ?_
          intro a73 ea73 fa73
          have hJ73 := kG_a3 hJ67 17 rfl ea73 fa73 (kd_bd _)
          exact ft_ret mi_k30 (by rfl) (hP  _ _ _ _ hJ73 trivial)
        by_cases w74 : ((a 8).getD (0 : Int32).toNatClampNeg 0).toInt = 2
        ·
          refine ko_eq (x1 := (128, [(4, .int m53), (3, .int ((a 9).getD (0 : Int32).toNatClampNeg 0)), (2, .int ((a 8).getD (0 : Int32).toNatClampNeg 0)), (0, .ref 1), (1, .int x1)], [.int 2, .ref 15], (0, 0), ks (ku (ku ig1 78 ((a 8).getD (0 : Int32).toNatClampNeg 0)) 79 ((ig1 79) + m53)) a67 qg1 rg1)) (by rw [(kj_eq w74 (by decide) : ((a 8).getD (0 : Int32).toNatClampNeg 0) = 2)]) ?_
          first | refine ft_go mi_k30 3 131 [(4, .int m53), (3, .int ((a 9).getD (0 : Int32).toNatClampNeg 0)), (2, .int ((a 8).getD (0 : Int32).toNatClampNeg 0)), (0, .ref 1), (1, .int x1)] [.int x1, .ref 18, .int x1, .ref 18] (ku (ku ig1 78 ((a 8).getD (0 : Int32).toNatClampNeg 0)) 79 ((ig1 79) + m53)) a67 qg1 rg1 (by rfl) ?_ | refine ko_steps mi_in30 3 _ (131, [(4, .int m53), (3, .int ((a 9).getD (0 : Int32).toNatClampNeg 0)), (2, .int ((a 8).getD (0 : Int32).toNatClampNeg 0)), (0, .ref 1), (1, .int x1)], [.int x1, .ref 18, .int x1, .ref 18], (0, 0), ks (ku (ku ig1 78 ((a 8).getD (0 : Int32).toNatClampNeg 0)) 79 ((ig1 79) + m53)) a67 qg1 rg1) (by rfl) ?_
          refine ko_iald3 mi_k30.1 (n := 8) (c := 8) (ax := (0, 0, 0, 0, 0)) (mi_k30.2 _ _ (by rfl)) (by rfl) (ksG18 _ _ _ _) (hJ67.I.2.1 18) rfl (oz3 hp0.1) (oz1032 hp0.2) ?_
          have b75 : ((-2147483648 : Int) ≤ ((a67 18).getD x1.toNatClampNeg 0).toInt) ∧ (((a67 18).getD x1.toNatClampNeg 0).toInt ≤ 2147483647) := kd_bd ((a67 18).getD x1.toNatClampNeg 0)
          first | refine ft_go mi_k30 2 135 [(4, .int m53), (3, .int ((a 9).getD (0 : Int32).toNatClampNeg 0)), (2, .int ((a 8).getD (0 : Int32).toNatClampNeg 0)), (0, .ref 1), (1, .int x1)] [.int (((a67 18).getD x1.toNatClampNeg 0) + m53), .int x1, .ref 18] (ku (ku ig1 78 ((a 8).getD (0 : Int32).toNatClampNeg 0)) 79 ((ig1 79) + m53)) a67 qg1 rg1 (by rfl) ?_ | refine ko_steps mi_in30 2 _ (135, [(4, .int m53), (3, .int ((a 9).getD (0 : Int32).toNatClampNeg 0)), (2, .int ((a 8).getD (0 : Int32).toNatClampNeg 0)), (0, .ref 1), (1, .int x1)], [.int (((a67 18).getD x1.toNatClampNeg 0) + m53), .int x1, .ref 18], (0, 0), ks (ku (ku ig1 78 ((a 8).getD (0 : Int32).toNatClampNeg 0)) 79 ((ig1 79) + m53)) a67 qg1 rg1) (by rfl) ?_
          refine ko_iast3 mi_k30.1 (n := 8) (c := 8) (ax := (0, 0, 0, 0, 0)) (mi_k30.2 _ _ (by rfl)) (by rfl) (ksG18 _ _ _ _) (ksA18 _ _ _ _) (hJ67.I.2.1 18) rfl (oz3 hp0.1) (oz1032 hp0.2) ?_
          intro a76 ea76 fa76
          have hJ76 := kG_a3 hJ67 18 rfl ea76 fa76 (kd_bd _)
          exact ft_ret mi_k30 (by rfl) (hP  _ _ _ _ hJ76 trivial)
        by_cases w77 : ((a 8).getD (0 : Int32).toNatClampNeg 0).toInt = 3
        ·
          refine ko_eq (x1 := (128, [(4, .int m53), (3, .int ((a 9).getD (0 : Int32).toNatClampNeg 0)), (2, .int ((a 8).getD (0 : Int32).toNatClampNeg 0)), (0, .ref 1), (1, .int x1)], [.int 3, .ref 15], (0, 0), ks (ku (ku ig1 78 ((a 8).getD (0 : Int32).toNatClampNeg 0)) 79 ((ig1 79) + m53)) a67 qg1 rg1)) (by rw [(kj_eq w77 (by decide) : ((a 8).getD (0 : Int32).toNatClampNeg 0) = 3)]) ?_
          first | refine ft_go mi_k30 3 131 [(4, .int m53), (3, .int ((a 9).getD (0 : Int32).toNatClampNeg 0)), (2, .int ((a 8).getD (0 : Int32).toNatClampNeg 0)), (0, .ref 1), (1, .int x1)] [.int x1, .ref 19, .int x1, .ref 19] (ku (ku ig1 78 ((a 8).getD (0 : Int32).toNatClampNeg 0)) 79 ((ig1 79) + m53)) a67 qg1 rg1 (by rfl) ?_ | refine ko_steps mi_in30 3 _ (131, [(4, .int m53), (3, .int ((a 9).getD (0 : Int32).toNatClampNeg 0)), (2, .int ((a 8).getD (0 : Int32).toNatClampNeg 0)), (0, .ref 1), (1, .int x1)], [.int x1, .ref 19, .int x1, .ref 19], (0, 0), ks (ku (ku ig1 78 ((a 8).getD (0 : Int32).toNatClampNeg 0)) 79 ((ig1 79) + m53)) a67 qg1 rg1) (by rfl) ?_
          refine ko_iald3 mi_k30.1 (n := 8) (c := 8) (ax := (0, 0, 0, 0, 0)) (mi_k30.2 _ _ (by rfl)) (by rfl) (ksG19 _ _ _ _) (hJ67.I.2.1 19) rfl (oz3 hp0.1) (oz1032 hp0.2) ?_
          have b78 : ((-2147483648 : Int) ≤ ((a67 19).getD x1.toNatClampNeg 0).toInt) ∧ (((a67 19).getD x1.toNatClampNeg 0).toInt ≤ 2147483647) := kd_bd ((a67 19).getD x1.toNatClampNeg 0)
          first | refine ft_go mi_k30 2 135 [(4, .int m53), (3, .int ((a 9).getD (0 : Int32).toNatClampNeg 0)), (2, .int ((a 8).getD (0 : Int32).toNatClampNeg 0)), (0, .ref 1), (1, .int x1)] [.int (((a67 19).getD x1.toNatClampNeg 0) + m53), .int x1, .ref 19] (ku (ku ig1 78 ((a 8).getD (0 : Int32).toNatClampNeg 0)) 79 ((ig1 79) + m53)) a67 qg1 rg1 (by rfl) ?_ | refine ko_steps mi_in30 2 _ (135, [(4, .int m53), (3, .int ((a 9).getD (0 : Int32).toNatClampNeg 0)), (2, .int ((a 8).getD (0 : Int32).toNatClampNeg 0)), (0, .ref 1), (1, .int x1)], [.int (((a67 19).getD x1.toNatClampNeg 0) + m53), .int x1, .ref 19], (0, 0), ks (ku (ku ig1 78 ((a 8).getD (0 : Int32).toNatClampNeg 0)) 79 ((ig1 79) + m53)) a67 qg1 rg1) (by rfl) ?_
          refine ko_iast3 mi_k30.1 (n := 8) (c := 8) (ax := (0, 0, 0, 0, 0)) (mi_k30.2 _ _ (by rfl)) (by rfl) (ksG19 _ _ _ _) (ksA19 _ _ _ _) (hJ67.I.2.1 19) rfl (oz3 hp0.1) (oz1032 hp0.2) ?_
          intro a79 ea79 fa79
          have hJ79 := kG_a3 hJ67 19 rfl ea79 fa79 (kd_bd _)
          exact ft_ret mi_k30 (by rfl) (hP  _ _ _ _ hJ79 trivial)
        by_cases w80 : ((a 8).getD (0 : Int32).toNatClampNeg 0).toInt = 4
        ·
          refine ko_eq (x1 := (128, [(4, .int m53), (3, .int ((a 9).getD (0 : Int32).toNatClampNeg 0)), (2, .int ((a 8).getD (0 : Int32).toNatClampNeg 0)), (0, .ref 1), (1, .int x1)], [.int 4, .ref 15], (0, 0), ks (ku (ku ig1 78 ((a 8).getD (0 : Int32).toNatClampNeg 0)) 79 ((ig1 79) + m53)) a67 qg1 rg1)) (by rw [(kj_eq w80 (by decide) : ((a 8).getD (0 : Int32).toNatClampNeg 0) = 4)]) ?_
          first | refine ft_go mi_k30 3 131 [(4, .int m53), (3, .int ((a 9).getD (0 : Int32).toNatClampNeg 0)), (2, .int ((a 8).getD (0 : Int32).toNatClampNeg 0)), (0, .ref 1), (1, .int x1)] [.int x1, .ref 20, .int x1, .ref 20] (ku (ku ig1 78 ((a 8).getD (0 : Int32).toNatClampNeg 0)) 79 ((ig1 79) + m53)) a67 qg1 rg1 (by rfl) ?_ | refine ko_steps mi_in30 3 _ (131, [(4, .int m53), (3, .int ((a 9).getD (0 : Int32).toNatClampNeg 0)), (2, .int ((a 8).getD (0 : Int32).toNatClampNeg 0)), (0, .ref 1), (1, .int x1)], [.int x1, .ref 20, .int x1, .ref 20], (0, 0), ks (ku (ku ig1 78 ((a 8).getD (0 : Int32).toNatClampNeg 0)) 79 ((ig1 79) + m53)) a67 qg1 rg1) (by rfl) ?_
          refine ko_iald3 mi_k30.1 (n := 8) (c := 8) (ax := (0, 0, 0, 0, 0)) (mi_k30.2 _ _ (by rfl)) (by rfl) (ksG20 _ _ _ _) (hJ67.I.2.1 20) rfl (oz3 hp0.1) (oz1032 hp0.2) ?_
          have b81 : ((-2147483648 : Int) ≤ ((a67 20).getD x1.toNatClampNeg 0).toInt) ∧ (((a67 20).getD x1.toNatClampNeg 0).toInt ≤ 2147483647) := kd_bd ((a67 20).getD x1.toNatClampNeg 0)
          first | refine ft_go mi_k30 2 135 [(4, .int m53), (3, .int ((a 9).getD (0 : Int32).toNatClampNeg 0)), (2, .int ((a 8).getD (0 : Int32).toNatClampNeg 0)), (0, .ref 1), (1, .int x1)] [.int (((a67 20).getD x1.toNatClampNeg 0) + m53), .int x1, .ref 20] (ku (ku ig1 78 ((a 8).getD (0 : Int32).toNatClampNeg 0)) 79 ((ig1 79) + m53)) a67 qg1 rg1 (by rfl) ?_ | refine ko_steps mi_in30 2 _ (135, [(4, .int m53), (3, .int ((a 9).getD (0 : Int32).toNatClampNeg 0)), (2, .int ((a 8).getD (0 : Int32).toNatClampNeg 0)), (0, .ref 1), (1, .int x1)], [.int (((a67 20).getD x1.toNatClampNeg 0) + m53), .int x1, .ref 20], (0, 0), ks (ku (ku ig1 78 ((a 8).getD (0 : Int32).toNatClampNeg 0)) 79 ((ig1 79) + m53)) a67 qg1 rg1) (by rfl) ?_
          refine ko_iast3 mi_k30.1 (n := 8) (c := 8) (ax := (0, 0, 0, 0, 0)) (mi_k30.2 _ _ (by rfl)) (by rfl) (ksG20 _ _ _ _) (ksA20 _ _ _ _) (hJ67.I.2.1 20) rfl (oz3 hp0.1) (oz1032 hp0.2) ?_
          intro a82 ea82 fa82
          have hJ82 := kG_a3 hJ67 20 rfl ea82 fa82 (kd_bd _)
          exact ft_ret mi_k30 (by rfl) (hP  _ _ _ _ hJ82 trivial)
        by_cases w83 : ((a 8).getD (0 : Int32).toNatClampNeg 0).toInt = 5
        ·
          refine ko_eq (x1 := (128, [(4, .int m53), (3, .int ((a 9).getD (0 : Int32).toNatClampNeg 0)), (2, .int ((a 8).getD (0 : Int32).toNatClampNeg 0)), (0, .ref 1), (1, .int x1)], [.int 5, .ref 15], (0, 0), ks (ku (ku ig1 78 ((a 8).getD (0 : Int32).toNatClampNeg 0)) 79 ((ig1 79) + m53)) a67 qg1 rg1)) (by rw [(kj_eq w83 (by decide) : ((a 8).getD (0 : Int32).toNatClampNeg 0) = 5)]) ?_
          first | refine ft_go mi_k30 3 131 [(4, .int m53), (3, .int ((a 9).getD (0 : Int32).toNatClampNeg 0)), (2, .int ((a 8).getD (0 : Int32).toNatClampNeg 0)), (0, .ref 1), (1, .int x1)] [.int x1, .ref 21, .int x1, .ref 21] (ku (ku ig1 78 ((a 8).getD (0 : Int32).toNatClampNeg 0)) 79 ((ig1 79) + m53)) a67 qg1 rg1 (by rfl) ?_ | refine ko_steps mi_in30 3 _ (131, [(4, .int m53), (3, .int ((a 9).getD (0 : Int32).toNatClampNeg 0)), (2, .int ((a 8).getD (0 : Int32).toNatClampNeg 0)), (0, .ref 1), (1, .int x1)], [.int x1, .ref 21, .int x1, .ref 21], (0, 0), ks (ku (ku ig1 78 ((a 8).getD (0 : Int32).toNatClampNeg 0)) 79 ((ig1 79) + m53)) a67 qg1 rg1) (by rfl) ?_
          refine ko_iald3 mi_k30.1 (n := 8) (c := 8) (ax := (0, 0, 0, 0, 0)) (mi_k30.2 _ _ (by rfl)) (by rfl) (ksG21 _ _ _ _) (hJ67.I.2.1 21) rfl (oz3 hp0.1) (oz1032 hp0.2) ?_
          have b84 : ((-2147483648 : Int) ≤ ((a67 21).getD x1.toNatClampNeg 0).toInt) ∧ (((a67 21).getD x1.toNatClampNeg 0).toInt ≤ 2147483647) := kd_bd ((a67 21).getD x1.toNatClampNeg 0)
          first | refine ft_go mi_k30 2 135 [(4, .int m53), (3, .int ((a 9).getD (0 : Int32).toNatClampNeg 0)), (2, .int ((a 8).getD (0 : Int32).toNatClampNeg 0)), (0, .ref 1), (1, .int x1)] [.int (((a67 21).getD x1.toNatClampNeg 0) + m53), .int x1, .ref 21] (ku (ku ig1 78 ((a 8).getD (0 : Int32).toNatClampNeg 0)) 79 ((ig1 79) + m53)) a67 qg1 rg1 (by rfl) ?_ | refine ko_steps mi_in30 2 _ (135, [(4, .int m53), (3, .int ((a 9).getD (0 : Int32).toNatClampNeg 0)), (2, .int ((a 8).getD (0 : Int32).toNatClampNeg 0)), (0, .ref 1), (1, .int x1)], [.int (((a67 21).getD x1.toNatClampNeg 0) + m53), .int x1, .ref 21], (0, 0), ks (ku (ku ig1 78 ((a 8).getD (0 : Int32).toNatClampNeg 0)) 79 ((ig1 79) + m53)) a67 qg1 rg1) (by rfl) ?_
          refine ko_iast3 mi_k30.1 (n := 8) (c := 8) (ax := (0, 0, 0, 0, 0)) (mi_k30.2 _ _ (by rfl)) (by rfl) (ksG21 _ _ _ _) (ksA21 _ _ _ _) (hJ67.I.2.1 21) rfl (oz3 hp0.1) (oz1032 hp0.2) ?_
          intro a85 ea85 fa85
          have hJ85 := kG_a3 hJ67 21 rfl ea85 fa85 (kd_bd _)
          exact ft_ret mi_k30 (by rfl) (hP  _ _ _ _ hJ85 trivial)
        by_cases w86 : ((a 8).getD (0 : Int32).toNatClampNeg 0).toInt = 6
        ·
          refine ko_eq (x1 := (128, [(4, .int m53), (3, .int ((a 9).getD (0 : Int32).toNatClampNeg 0)), (2, .int ((a 8).getD (0 : Int32).toNatClampNeg 0)), (0, .ref 1), (1, .int x1)], [.int 6, .ref 15], (0, 0), ks (ku (ku ig1 78 ((a 8).getD (0 : Int32).toNatClampNeg 0)) 79 ((ig1 79) + m53)) a67 qg1 rg1)) (by rw [(kj_eq w86 (by decide) : ((a 8).getD (0 : Int32).toNatClampNeg 0) = 6)]) ?_
          first | refine ft_go mi_k30 3 131 [(4, .int m53), (3, .int ((a 9).getD (0 : Int32).toNatClampNeg 0)), (2, .int ((a 8).getD (0 : Int32).toNatClampNeg 0)), (0, .ref 1), (1, .int x1)] [.int x1, .ref 22, .int x1, .ref 22] (ku (ku ig1 78 ((a 8).getD (0 : Int32).toNatClampNeg 0)) 79 ((ig1 79) + m53)) a67 qg1 rg1 (by rfl) ?_ | refine ko_steps mi_in30 3 _ (131, [(4, .int m53), (3, .int ((a 9).getD (0 : Int32).toNatClampNeg 0)), (2, .int ((a 8).getD (0 : Int32).toNatClampNeg 0)), (0, .ref 1), (1, .int x1)], [.int x1, .ref 22, .int x1, .ref 22], (0, 0), ks (ku (ku ig1 78 ((a 8).getD (0 : Int32).toNatClampNeg 0)) 79 ((ig1 79) + m53)) a67 qg1 rg1) (by rfl) ?_
          refine ko_iald3 mi_k30.1 (n := 8) (c := 8) (ax := (0, 0, 0, 0, 0)) (mi_k30.2 _ _ (by rfl)) (by rfl) (ksG22 _ _ _ _) (hJ67.I.2.1 22) rfl (oz3 hp0.1) (oz1032 hp0.2) ?_
          have b87 : ((-2147483648 : Int) ≤ ((a67 22).getD x1.toNatClampNeg 0).toInt) ∧ (((a67 22).getD x1.toNatClampNeg 0).toInt ≤ 2147483647) := kd_bd ((a67 22).getD x1.toNatClampNeg 0)
          first | refine ft_go mi_k30 2 135 [(4, .int m53), (3, .int ((a 9).getD (0 : Int32).toNatClampNeg 0)), (2, .int ((a 8).getD (0 : Int32).toNatClampNeg 0)), (0, .ref 1), (1, .int x1)] [.int (((a67 22).getD x1.toNatClampNeg 0) + m53), .int x1, .ref 22] (ku (ku ig1 78 ((a 8).getD (0 : Int32).toNatClampNeg 0)) 79 ((ig1 79) + m53)) a67 qg1 rg1 (by rfl) ?_ | refine ko_steps mi_in30 2 _ (135, [(4, .int m53), (3, .int ((a 9).getD (0 : Int32).toNatClampNeg 0)), (2, .int ((a 8).getD (0 : Int32).toNatClampNeg 0)), (0, .ref 1), (1, .int x1)], [.int (((a67 22).getD x1.toNatClampNeg 0) + m53), .int x1, .ref 22], (0, 0), ks (ku (ku ig1 78 ((a 8).getD (0 : Int32).toNatClampNeg 0)) 79 ((ig1 79) + m53)) a67 qg1 rg1) (by rfl) ?_
          refine ko_iast3 mi_k30.1 (n := 8) (c := 8) (ax := (0, 0, 0, 0, 0)) (mi_k30.2 _ _ (by rfl)) (by rfl) (ksG22 _ _ _ _) (ksA22 _ _ _ _) (hJ67.I.2.1 22) rfl (oz3 hp0.1) (oz1032 hp0.2) ?_
          intro a88 ea88 fa88
          have hJ88 := kG_a3 hJ67 22 rfl ea88 fa88 (kd_bd _)
          exact ft_ret mi_k30 (by rfl) (hP  _ _ _ _ hJ88 trivial)
        by_cases w89 : ((a 8).getD (0 : Int32).toNatClampNeg 0).toInt = 7
        ·
          refine ko_eq (x1 := (128, [(4, .int m53), (3, .int ((a 9).getD (0 : Int32).toNatClampNeg 0)), (2, .int ((a 8).getD (0 : Int32).toNatClampNeg 0)), (0, .ref 1), (1, .int x1)], [.int 7, .ref 15], (0, 0), ks (ku (ku ig1 78 ((a 8).getD (0 : Int32).toNatClampNeg 0)) 79 ((ig1 79) + m53)) a67 qg1 rg1)) (by rw [(kj_eq w89 (by decide) : ((a 8).getD (0 : Int32).toNatClampNeg 0) = 7)]) ?_
          first | refine ft_go mi_k30 3 131 [(4, .int m53), (3, .int ((a 9).getD (0 : Int32).toNatClampNeg 0)), (2, .int ((a 8).getD (0 : Int32).toNatClampNeg 0)), (0, .ref 1), (1, .int x1)] [.int x1, .ref 23, .int x1, .ref 23] (ku (ku ig1 78 ((a 8).getD (0 : Int32).toNatClampNeg 0)) 79 ((ig1 79) + m53)) a67 qg1 rg1 (by rfl) ?_ | refine ko_steps mi_in30 3 _ (131, [(4, .int m53), (3, .int ((a 9).getD (0 : Int32).toNatClampNeg 0)), (2, .int ((a 8).getD (0 : Int32).toNatClampNeg 0)), (0, .ref 1), (1, .int x1)], [.int x1, .ref 23, .int x1, .ref 23], (0, 0), ks (ku (ku ig1 78 ((a 8).getD (0 : Int32).toNatClampNeg 0)) 79 ((ig1 79) + m53)) a67 qg1 rg1) (by rfl) ?_
          refine ko_iald3 mi_k30.1 (n := 8) (c := 8) (ax := (0, 0, 0, 0, 0)) (mi_k30.2 _ _ (by rfl)) (by rfl) (ksG23 _ _ _ _) (hJ67.I.2.1 23) rfl (oz3 hp0.1) (oz1032 hp0.2) ?_
          have b90 : ((-2147483648 : Int) ≤ ((a67 23).getD x1.toNatClampNeg 0).toInt) ∧ (((a67 23).getD x1.toNatClampNeg 0).toInt ≤ 2147483647) := kd_bd ((a67 23).getD x1.toNatClampNeg 0)
          first | refine ft_go mi_k30 2 135 [(4, .int m53), (3, .int ((a 9).getD (0 : Int32).toNatClampNeg 0)), (2, .int ((a 8).getD (0 : Int32).toNatClampNeg 0)), (0, .ref 1), (1, .int x1)] [.int (((a67 23).getD x1.toNatClampNeg 0) + m53), .int x1, .ref 23] (ku (ku ig1 78 ((a 8).getD (0 : Int32).toNatClampNeg 0)) 79 ((ig1 79) + m53)) a67 qg1 rg1 (by rfl) ?_ | refine ko_steps mi_in30 2 _ (135, [(4, .int m53), (3, .int ((a 9).getD (0 : Int32).toNatClampNeg 0)), (2, .int ((a 8).getD (0 : Int32).toNatClampNeg 0)), (0, .ref 1), (1, .int x1)], [.int (((a67 23).getD x1.toNatClampNeg 0) + m53), .int x1, .ref 23], (0, 0), ks (ku (ku ig1 78 ((a 8).getD (0 : Int32).toNatClampNeg 0)) 79 ((ig1 79) + m53)) a67 qg1 rg1) (by rfl) ?_
          refine ko_iast3 mi_k30.1 (n := 8) (c := 8) (ax := (0, 0, 0, 0, 0)) (mi_k30.2 _ _ (by rfl)) (by rfl) (ksG23 _ _ _ _) (ksA23 _ _ _ _) (hJ67.I.2.1 23) rfl (oz3 hp0.1) (oz1032 hp0.2) ?_
          intro a91 ea91 fa91
          have hJ91 := kG_a3 hJ67 23 rfl ea91 fa91 (kd_bd _)
          exact ft_ret mi_k30 (by rfl) (hP  _ _ _ _ hJ91 trivial)
        exact (oz1051 fig1_64.2 w68 w71 w74 w77 w80 w83 w86 w89 z52.1 z52.2).elim
      ·
        subst eg51
        have fig1_64 : ((0 : Int) ≤ (ig1 64).toInt) ∧ ((ig1 64).toInt ≤ 8) := hJ48.I.1 64
        have fi_64 : ((0 : Int) ≤ (i 64).toInt) ∧ ((i 64).toInt ≤ 8) := hG.I.1 64
        have efig1_64 : (ig1 64).toInt = (i 64).toInt := kg1.ti 64 rfl
        have z92 : ¬ (((0 : Int) ≤ ((a 8).getD (0 : Int32).toNatClampNeg 0).toInt) ∧ (((a 8).getD (0 : Int32).toNatClampNeg 0).toInt < (ig1 64).toInt)) := hg51
        first | refine ft_go mi_k30 1 54 [(3, .int ((a 9).getD (0 : Int32).toNatClampNeg 0)), (2, .int ((a 8).getD (0 : Int32).toNatClampNeg 0)), (0, .ref 1), (1, .int x1)] [] (ku ig1 78 ((a 8).getD (0 : Int32).toNatClampNeg 0)) ag1 qg1 rg1 (by rfl) ?_ | refine ko_steps mi_in30 1 _ (54, [(3, .int ((a 9).getD (0 : Int32).toNatClampNeg 0)), (2, .int ((a 8).getD (0 : Int32).toNatClampNeg 0)), (0, .ref 1), (1, .int x1)], [], (0, 0), ks (ku ig1 78 ((a 8).getD (0 : Int32).toNatClampNeg 0)) ag1 qg1 rg1) (by rfl) ?_
        exact ft_ret mi_k30 (by rfl) (hP  _ _ _ _ hJ48 trivial)
def w29_1 : kW := ([73, 78, 79, 80, 450, 645, 6405], [2, 6, 8, 9, 13, 14, 16, 17, 18, 19, 20, 21, 22, 23, 24, 103], [], [])
def w29_1_L52 : kW := ([78, 79, 450], [2, 8, 9, 14, 16, 17, 18, 19, 20, 21, 22, 23], [], [])
set_option maxRecDepth 100000 in
theorem kc29_1 {i : Nat → Int32} {a : Nat → List Int32} {q : Nat → List Int64} {r : Nat → Nat} (hI : kI i a q) (hr : kr r) (x1 : Int32) : km 7 29 [.ref 1, .int x1] (ks i a q r) (kVI w29_1 i a q r (fun v i1 a1 q1 r1 => True)) := by
  have hG := kG_self w29_1 hI hr
  refine km_ofI (q := (mi_h29, mi_c29)) rfl (by decide) (Nat.le_of_ble_eq_true rfl) ?_
  intro P hP
  have hJ1 := kG_i hG 78 rfl (v := 8) (kd_bd _)
  have hJ2 := kG_i hJ1 79 rfl (v := 0) (kd_bd _)
  have hJ3 := kG_i hJ2 80 rfl (v := 0) (kd_bd _)
  refine ft_go mi_k29 11 18 [(0, .ref 1), (1, .int x1)] [.int x1, .ref 1] (ku (ku (ku i 78 8) 79 0) 80 0) a q r (by rfl) ?_
  refine ko_callPI mi_k29.1 (pc := 18) (ls := [(0, .ref 1), (1, .int x1)]) (st := [.int x1, .ref 1]) (h := ks (ku (ku (ku i 78 8) 79 0) 80 0) a q r) (i := (.invokevirtual 85, 3, 24, 0, 9, 0, 165)) (mi_k29.2 _ _ (by rfl)) (ft_invS mi_pq24 (by rfl)) (cy := mi_c24) mi_pq24 rfl (kc24_1 hJ3.I hJ3.R x1) (by decide) ?_
  intro vg4 hg4
  rcases hg4 with ⟨eg4, hg4⟩ | ⟨eg4, hg4⟩
  ·
    subst eg4
    have fi_64 : ((0 : Int) ≤ (i 64).toInt) ∧ ((i 64).toInt ≤ 8) := hJ3.I.1 64
    have z5 : ((0 : Int) ≤ x1.toInt) ∧ (x1.toInt < (i 64).toInt) := hg4
    refine ft_go mi_k29 3 28 [(0, .ref 1), (1, .int x1)] [.int (i 71)] (ku (ku (ku i 78 8) 79 0) 80 0) a q r (by rfl) ?_
    refine ft_if mi_k29 ((i 71) != 0) 43 31 [(0, .ref 1), (1, .int x1)] [] (by rfl) (fun c => ?_) (fun c => ?_)
    ·
      have c6 : (i 71).toInt ≠ (0 : Int32).toInt := kd_ne c; clear c
      refine ft_go mi_k29 3 48 [(0, .ref 1), (1, .int x1)] [.int x1, .ref 2] (ku (ku (ku i 78 8) 79 0) 80 0) a q r (by rfl) ?_
      refine ko_iald3 mi_k29.1 (n := 8) (c := 8) (ax := (0, 0, 0, 0, 0)) (mi_k29.2 _ _ (by rfl)) (by rfl) (ksG2 _ _ _ _) (hJ3.I.2.1 2) rfl (oz3 z5.1) (oz974 fi_64.2 z5.2) ?_
      refine ft_go mi_k29 3 52 [(3, .int 0), (2, .int ((a 2).getD x1.toNatClampNeg 0)), (0, .ref 1), (1, .int x1)] [] (ku (ku (ku i 78 8) 79 0) 80 0) a q r (by rfl) ?_
      have lp7 : ∀ (nz : Nat) (i7 : Nat → Int32) (a7 : Nat → List Int32) (q7 : Nat → List Int64) (r7 : Nat → Nat) (l3_7 : Int32), kG w29_1_L52 (ku (ku (ku i 78 8) 79 0) 80 0) a q r i7 a7 q7 r7 → (0 : Int) ≤ l3_7.toInt → ((5 - l3_7.toInt)).toNat < nz → ko 7 (mi_h29, mi_c29) P (52, [(3, .int l3_7), (2, .int ((a 2).getD x1.toNatClampNeg 0)), (0, .ref 1), (1, .int x1)], [], (0, 0), ks i7 a7 q7 r7) := by
        intro nz
        induction nz with
        | zero =>
          intro _ _ _ _ _ _ _ hm
          exact absurd hm (Nat.not_lt_zero _)
        | succ nz ih7 =>
          intro i7 a7 q7 r7 l3_7 hL7 p7_0 hm7
          refine ft_go mi_k29 2 54 [(3, .int l3_7), (2, .int ((a 2).getD x1.toNatClampNeg 0)), (0, .ref 1), (1, .int x1)] [.int 5, .int l3_7] i7 a7 q7 r7 (by rfl) ?_
          refine ft_if mi_k29 (decide (5 ≤ l3_7)) 82 57 [(3, .int l3_7), (2, .int ((a 2).getD x1.toNatClampNeg 0)), (0, .ref 1), (1, .int x1)] [] (by rfl) (fun c => ?_) (fun c => ?_)
          ·
            have c8 : (5 : Int32).toInt ≤ l3_7.toInt := kd_le c; clear c
            have hG9 := kG_call hJ3 hL7 (by decide +kernel)
            refine ft_go mi_k29 4 86 [(3, .int l3_7), (2, .int ((a 2).getD x1.toNatClampNeg 0)), (0, .ref 1), (1, .int x1)] [.int ((a 2).getD x1.toNatClampNeg 0), .int x1, .ref 1, .ref 1] i7 a7 q7 r7 (by rfl) ?_
            refine ko_callI mi_k29.1 (pc := 86) (ls := [(3, .int l3_7), (2, .int ((a 2).getD x1.toNatClampNeg 0)), (0, .ref 1), (1, .int x1)]) (st := [.int ((a 2).getD x1.toNatClampNeg 0), .int x1, .ref 1, .ref 1]) (h := ks i7 a7 q7 r7) (i := (.invokevirtual 100, 3, 31, 0, 9, 0, 223)) (mi_k29.2 _ _ (by rfl)) (ft_invS mi_pq31 (by rfl)) (cy := mi_c31) mi_pq31 rfl (kc31_1 hG9.I hG9.R x1 ((a 2).getD x1.toNatClampNeg 0) (oz423 fi_64.2 z5.1 z5.2)) (by decide) ?_
            intro vg10 ig10 ag10 qg10 rg10 kg10 hg10
            have hGg10 := kG_call hG9 kg10 (by decide +kernel)
            have hJ11 := kG_i hGg10 80 rfl (v := vg10) (kd_bd _)
            refine ft_go mi_k29 6 101 [(3, .int l3_7), (2, .int ((a 2).getD x1.toNatClampNeg 0)), (0, .ref 1), (1, .int x1)] [.int vg10, .int x1, .ref 7] (ku ig10 80 vg10) ag10 qg10 rg10 (by rfl) ?_
            refine ko_callN mi_k29.1 (pc := 101) (ls := [(3, .int l3_7), (2, .int ((a 2).getD x1.toNatClampNeg 0)), (0, .ref 1), (1, .int x1)]) (st := [.int vg10, .int x1, .ref 7]) (h := ks (ku ig10 80 vg10) ag10 qg10 rg10) (i := (.invokevirtual 104, 3, 1, 0, 9, 0, 228)) (mi_k29.2 _ _ (by rfl)) (ft_invS mi_pq1 (by rfl)) (cy := mi_c1) mi_pq1 rfl (kc1_7 hJ11.I hJ11.R x1 vg10) (by decide) ?_
            intro ig12 ag12 qg12 rg12 kg12 hg12
            have hGg12 := kG_call hJ11 kg12 (by decide +kernel)
            have efi7_73 : (i7 73).toInt = (i 73).toInt := hL7.ti 73 rfl
            have efig10_73 : (ig10 73).toInt = (i7 73).toInt := kg10.ti 73 rfl
            have efig12_73 : (ig12 73).toInt = (ig10 73).toInt := kg12.ti 73 rfl
            have b13 : ((-2147483648 : Int) ≤ (ig12 73).toInt) ∧ ((ig12 73).toInt ≤ 2147483647) := kd_bd (ig12 73)
            have hJ14 := kG_i hGg12 73 rfl (v := ((ig12 73) + 1)) (kd_bd _)
            refine ft_go mi_k29 10 120 [(3, .int l3_7), (2, .int ((a 2).getD x1.toNatClampNeg 0)), (0, .ref 1), (1, .int x1)] [.int x1, .ref 6, .int x1, .ref 6] (ku ig12 73 ((ig12 73) + 1)) ag12 qg12 rg12 (by rfl) ?_
            refine ko_iald3 mi_k29.1 (n := 8) (c := 8) (ax := (0, 0, 0, 0, 0)) (mi_k29.2 _ _ (by rfl)) (by rfl) (ksG6 _ _ _ _) (hJ14.I.2.1 6) rfl (oz3 z5.1) (oz974 fi_64.2 z5.2) ?_
            have b15 : ((-2147483648 : Int) ≤ ((ag12 6).getD x1.toNatClampNeg 0).toInt) ∧ (((ag12 6).getD x1.toNatClampNeg 0).toInt ≤ 2147483647) := kd_bd ((ag12 6).getD x1.toNatClampNeg 0)
            refine ft_go mi_k29 2 123 [(3, .int l3_7), (2, .int ((a 2).getD x1.toNatClampNeg 0)), (0, .ref 1), (1, .int x1)] [.int (((ag12 6).getD x1.toNatClampNeg 0) + 1), .int x1, .ref 6] (ku ig12 73 ((ig12 73) + 1)) ag12 qg12 rg12 (by rfl) ?_
            refine ko_iast3 mi_k29.1 (n := 8) (c := 8) (ax := (0, 0, 0, 0, 0)) (mi_k29.2 _ _ (by rfl)) (by rfl) (ksG6 _ _ _ _) (ksA6 _ _ _ _) (hJ14.I.2.1 6) rfl (oz3 z5.1) (oz974 fi_64.2 z5.2) ?_
            intro a16 ea16 fa16
            have hJ16 := kG_a3 hJ14 6 rfl ea16 fa16 (kd_bd _)
            refine ft_go mi_k29 4 130 [(3, .int l3_7), (2, .int ((a 2).getD x1.toNatClampNeg 0)), (0, .ref 1), (1, .int x1)] [.int 0, .ref 14, .int 0, .ref 14] (ku ig12 73 ((ig12 73) + 1)) a16 qg12 rg12 (by rfl) ?_
            refine ko_iald3 mi_k29.1 (n := 5) (c := 5) (ax := (0, 0, 0, 0, 0)) (mi_k29.2 _ _ (by rfl)) (by rfl) (ksG14 _ _ _ _) (hJ16.I.2.1 14) rfl (oz46 kn0) (oz547 kn0) ?_
            have b17 : ((-2147483648 : Int) ≤ ((a16 14).getD (0 : Int32).toNatClampNeg 0).toInt) ∧ (((a16 14).getD (0 : Int32).toNatClampNeg 0).toInt ≤ 2147483647) := kd_bd ((a16 14).getD (0 : Int32).toNatClampNeg 0)
            refine ft_go mi_k29 2 133 [(3, .int l3_7), (2, .int ((a 2).getD x1.toNatClampNeg 0)), (0, .ref 1), (1, .int x1)] [.int (((a16 14).getD (0 : Int32).toNatClampNeg 0) + 1), .int 0, .ref 14] (ku ig12 73 ((ig12 73) + 1)) a16 qg12 rg12 (by rfl) ?_
            refine ko_iast3 mi_k29.1 (n := 5) (c := 5) (ax := (0, 0, 0, 0, 0)) (mi_k29.2 _ _ (by rfl)) (by rfl) (ksG14 _ _ _ _) (ksA14 _ _ _ _) (hJ16.I.2.1 14) rfl (oz46 kn0) (oz547 kn0) ?_
            intro a18 ea18 fa18
            have hJ18 := kG_a3 hJ16 14 rfl ea18 fa18 (kd_bd _)
            refine ft_go mi_k29 4 140 [(3, .int l3_7), (2, .int ((a 2).getD x1.toNatClampNeg 0)), (0, .ref 1), (1, .int x1)] [.int 1, .ref 14, .int 1, .ref 14] (ku ig12 73 ((ig12 73) + 1)) a18 qg12 rg12 (by rfl) ?_
            refine ko_iald3 mi_k29.1 (n := 5) (c := 5) (ax := (0, 0, 0, 0, 0)) (mi_k29.2 _ _ (by rfl)) (by rfl) (ksG14 _ _ _ _) (hJ18.I.2.1 14) rfl (oz246 kn1) (oz548 kn1) ?_
            have efig10_79 : (ig10 79).toInt = (i7 79).toInt := kg10.ti 79 rfl
            have efig12_79 : (ig12 79).toInt = (ig10 79).toInt := kg12.ti 79 rfl
            have b19 : ((-2147483648 : Int) ≤ ((a18 14).getD (1 : Int32).toNatClampNeg 0).toInt) ∧ (((a18 14).getD (1 : Int32).toNatClampNeg 0).toInt ≤ 2147483647) := kd_bd ((a18 14).getD (1 : Int32).toNatClampNeg 0)
            have b20 : ((-2147483648 : Int) ≤ (ig12 79).toInt) ∧ ((ig12 79).toInt ≤ 2147483647) := kd_bd (ig12 79)
            refine ft_go mi_k29 3 146 [(3, .int l3_7), (2, .int ((a 2).getD x1.toNatClampNeg 0)), (0, .ref 1), (1, .int x1)] [.int (((a18 14).getD (1 : Int32).toNatClampNeg 0) + (ig12 79)), .int 1, .ref 14] (ku ig12 73 ((ig12 73) + 1)) a18 qg12 rg12 (by rfl) ?_
            refine ko_iast3 mi_k29.1 (n := 5) (c := 5) (ax := (0, 0, 0, 0, 0)) (mi_k29.2 _ _ (by rfl)) (by rfl) (ksG14 _ _ _ _) (ksA14 _ _ _ _) (hJ18.I.2.1 14) rfl (oz246 kn1) (oz548 kn1) ?_
            intro a21 ea21 fa21
            have hJ21 := kG_a3 hJ18 14 rfl ea21 fa21 (kd_bd _)
            refine ft_go mi_k29 2 151 [(3, .int l3_7), (2, .int ((a 2).getD x1.toNatClampNeg 0)), (0, .ref 1), (1, .int x1)] [.int (ig12 79)] (ku ig12 73 ((ig12 73) + 1)) a21 qg12 rg12 (by rfl) ?_
            exact ft_ret mi_k29 (by rfl) (hP (ig12 79) _ _ _ _ hJ21 trivial)
          ·
            have c22 : l3_7.toInt < (5 : Int32).toInt := kd_leF c; clear c
            have fi7_450 : ((0 : Int) ≤ (i7 450).toInt) ∧ ((i7 450).toInt ≤ 5) := hL7.I.1 450
            have efi7_70 : (i7 70).toInt = (i 70).toInt := hL7.ti 70 rfl
            refine ft_go mi_k29 5 68 [(3, .int l3_7), (2, .int ((a 2).getD x1.toNatClampNeg 0)), (0, .ref 1), (1, .int x1)] [.int (i7 70), .int (i7 450)] i7 a7 q7 r7 (by rfl) ?_
            refine ft_if mi_k29 (decide ((i7 450) < (i7 70))) 82 71 [(3, .int l3_7), (2, .int ((a 2).getD x1.toNatClampNeg 0)), (0, .ref 1), (1, .int x1)] [] (by rfl) (fun c => ?_) (fun c => ?_)
            ·
              have c23 : (i7 450).toInt < (i7 70).toInt := kd_lt c; clear c
              have hG24 := kG_call hJ3 hL7 (by decide +kernel)
              refine ft_go mi_k29 4 86 [(3, .int l3_7), (2, .int ((a 2).getD x1.toNatClampNeg 0)), (0, .ref 1), (1, .int x1)] [.int ((a 2).getD x1.toNatClampNeg 0), .int x1, .ref 1, .ref 1] i7 a7 q7 r7 (by rfl) ?_
              refine ko_callI mi_k29.1 (pc := 86) (ls := [(3, .int l3_7), (2, .int ((a 2).getD x1.toNatClampNeg 0)), (0, .ref 1), (1, .int x1)]) (st := [.int ((a 2).getD x1.toNatClampNeg 0), .int x1, .ref 1, .ref 1]) (h := ks i7 a7 q7 r7) (i := (.invokevirtual 100, 3, 31, 0, 9, 0, 223)) (mi_k29.2 _ _ (by rfl)) (ft_invS mi_pq31 (by rfl)) (cy := mi_c31) mi_pq31 rfl (kc31_1 hG24.I hG24.R x1 ((a 2).getD x1.toNatClampNeg 0) (oz423 fi_64.2 z5.1 z5.2)) (by decide) ?_
              intro vg25 ig25 ag25 qg25 rg25 kg25 hg25
              have hGg25 := kG_call hG24 kg25 (by decide +kernel)
              have hJ26 := kG_i hGg25 80 rfl (v := vg25) (kd_bd _)
              refine ft_go mi_k29 6 101 [(3, .int l3_7), (2, .int ((a 2).getD x1.toNatClampNeg 0)), (0, .ref 1), (1, .int x1)] [.int vg25, .int x1, .ref 7] (ku ig25 80 vg25) ag25 qg25 rg25 (by rfl) ?_
              refine ko_callN mi_k29.1 (pc := 101) (ls := [(3, .int l3_7), (2, .int ((a 2).getD x1.toNatClampNeg 0)), (0, .ref 1), (1, .int x1)]) (st := [.int vg25, .int x1, .ref 7]) (h := ks (ku ig25 80 vg25) ag25 qg25 rg25) (i := (.invokevirtual 104, 3, 1, 0, 9, 0, 228)) (mi_k29.2 _ _ (by rfl)) (ft_invS mi_pq1 (by rfl)) (cy := mi_c1) mi_pq1 rfl (kc1_7 hJ26.I hJ26.R x1 vg25) (by decide) ?_
              intro ig27 ag27 qg27 rg27 kg27 hg27
              have hGg27 := kG_call hJ26 kg27 (by decide +kernel)
              have efi7_73 : (i7 73).toInt = (i 73).toInt := hL7.ti 73 rfl
              have efig25_73 : (ig25 73).toInt = (i7 73).toInt := kg25.ti 73 rfl
              have efig27_73 : (ig27 73).toInt = (ig25 73).toInt := kg27.ti 73 rfl
              have b28 : ((-2147483648 : Int) ≤ (ig27 73).toInt) ∧ ((ig27 73).toInt ≤ 2147483647) := kd_bd (ig27 73)
              have hJ29 := kG_i hGg27 73 rfl (v := ((ig27 73) + 1)) (kd_bd _)
              refine ft_go mi_k29 10 120 [(3, .int l3_7), (2, .int ((a 2).getD x1.toNatClampNeg 0)), (0, .ref 1), (1, .int x1)] [.int x1, .ref 6, .int x1, .ref 6] (ku ig27 73 ((ig27 73) + 1)) ag27 qg27 rg27 (by rfl) ?_
              refine ko_iald3 mi_k29.1 (n := 8) (c := 8) (ax := (0, 0, 0, 0, 0)) (mi_k29.2 _ _ (by rfl)) (by rfl) (ksG6 _ _ _ _) (hJ29.I.2.1 6) rfl (oz3 z5.1) (oz974 fi_64.2 z5.2) ?_
              have b30 : ((-2147483648 : Int) ≤ ((ag27 6).getD x1.toNatClampNeg 0).toInt) ∧ (((ag27 6).getD x1.toNatClampNeg 0).toInt ≤ 2147483647) := kd_bd ((ag27 6).getD x1.toNatClampNeg 0)
              refine ft_go mi_k29 2 123 [(3, .int l3_7), (2, .int ((a 2).getD x1.toNatClampNeg 0)), (0, .ref 1), (1, .int x1)] [.int (((ag27 6).getD x1.toNatClampNeg 0) + 1), .int x1, .ref 6] (ku ig27 73 ((ig27 73) + 1)) ag27 qg27 rg27 (by rfl) ?_
              refine ko_iast3 mi_k29.1 (n := 8) (c := 8) (ax := (0, 0, 0, 0, 0)) (mi_k29.2 _ _ (by rfl)) (by rfl) (ksG6 _ _ _ _) (ksA6 _ _ _ _) (hJ29.I.2.1 6) rfl (oz3 z5.1) (oz974 fi_64.2 z5.2) ?_
              intro a31 ea31 fa31
              have hJ31 := kG_a3 hJ29 6 rfl ea31 fa31 (kd_bd _)
              refine ft_go mi_k29 4 130 [(3, .int l3_7), (2, .int ((a 2).getD x1.toNatClampNeg 0)), (0, .ref 1), (1, .int x1)] [.int 0, .ref 14, .int 0, .ref 14] (ku ig27 73 ((ig27 73) + 1)) a31 qg27 rg27 (by rfl) ?_
              refine ko_iald3 mi_k29.1 (n := 5) (c := 5) (ax := (0, 0, 0, 0, 0)) (mi_k29.2 _ _ (by rfl)) (by rfl) (ksG14 _ _ _ _) (hJ31.I.2.1 14) rfl (oz46 kn0) (oz547 kn0) ?_
              have b32 : ((-2147483648 : Int) ≤ ((a31 14).getD (0 : Int32).toNatClampNeg 0).toInt) ∧ (((a31 14).getD (0 : Int32).toNatClampNeg 0).toInt ≤ 2147483647) := kd_bd ((a31 14).getD (0 : Int32).toNatClampNeg 0)
              refine ft_go mi_k29 2 133 [(3, .int l3_7), (2, .int ((a 2).getD x1.toNatClampNeg 0)), (0, .ref 1), (1, .int x1)] [.int (((a31 14).getD (0 : Int32).toNatClampNeg 0) + 1), .int 0, .ref 14] (ku ig27 73 ((ig27 73) + 1)) a31 qg27 rg27 (by rfl) ?_
              refine ko_iast3 mi_k29.1 (n := 5) (c := 5) (ax := (0, 0, 0, 0, 0)) (mi_k29.2 _ _ (by rfl)) (by rfl) (ksG14 _ _ _ _) (ksA14 _ _ _ _) (hJ31.I.2.1 14) rfl (oz46 kn0) (oz547 kn0) ?_
              intro a33 ea33 fa33
              have hJ33 := kG_a3 hJ31 14 rfl ea33 fa33 (kd_bd _)
              refine ft_go mi_k29 4 140 [(3, .int l3_7), (2, .int ((a 2).getD x1.toNatClampNeg 0)), (0, .ref 1), (1, .int x1)] [.int 1, .ref 14, .int 1, .ref 14] (ku ig27 73 ((ig27 73) + 1)) a33 qg27 rg27 (by rfl) ?_
              refine ko_iald3 mi_k29.1 (n := 5) (c := 5) (ax := (0, 0, 0, 0, 0)) (mi_k29.2 _ _ (by rfl)) (by rfl) (ksG14 _ _ _ _) (hJ33.I.2.1 14) rfl (oz246 kn1) (oz548 kn1) ?_
              have efig25_79 : (ig25 79).toInt = (i7 79).toInt := kg25.ti 79 rfl
              have efig27_79 : (ig27 79).toInt = (ig25 79).toInt := kg27.ti 79 rfl
              have b34 : ((-2147483648 : Int) ≤ ((a33 14).getD (1 : Int32).toNatClampNeg 0).toInt) ∧ (((a33 14).getD (1 : Int32).toNatClampNeg 0).toInt ≤ 2147483647) := kd_bd ((a33 14).getD (1 : Int32).toNatClampNeg 0)
              have b35 : ((-2147483648 : Int) ≤ (ig27 79).toInt) ∧ ((ig27 79).toInt ≤ 2147483647) := kd_bd (ig27 79)
              refine ft_go mi_k29 3 146 [(3, .int l3_7), (2, .int ((a 2).getD x1.toNatClampNeg 0)), (0, .ref 1), (1, .int x1)] [.int (((a33 14).getD (1 : Int32).toNatClampNeg 0) + (ig27 79)), .int 1, .ref 14] (ku ig27 73 ((ig27 73) + 1)) a33 qg27 rg27 (by rfl) ?_
              refine ko_iast3 mi_k29.1 (n := 5) (c := 5) (ax := (0, 0, 0, 0, 0)) (mi_k29.2 _ _ (by rfl)) (by rfl) (ksG14 _ _ _ _) (ksA14 _ _ _ _) (hJ33.I.2.1 14) rfl (oz246 kn1) (oz548 kn1) ?_
              intro a36 ea36 fa36
              have hJ36 := kG_a3 hJ33 14 rfl ea36 fa36 (kd_bd _)
              refine ft_go mi_k29 2 151 [(3, .int l3_7), (2, .int ((a 2).getD x1.toNatClampNeg 0)), (0, .ref 1), (1, .int x1)] [.int (ig27 79)] (ku ig27 73 ((ig27 73) + 1)) a36 qg27 rg27 (by rfl) ?_
              exact ft_ret mi_k29 (by rfl) (hP (ig27 79) _ _ _ _ hJ36 trivial)
            ·
              have c37 : (i7 70).toInt ≤ (i7 450).toInt := kd_ltF c; clear c
              refine ft_go mi_k29 2 73 [(3, .int l3_7), (2, .int ((a 2).getD x1.toNatClampNeg 0)), (0, .ref 1), (1, .int x1)] [.int x1, .ref 1] i7 a7 q7 r7 (by rfl) ?_
              refine ko_callN mi_k29.1 (pc := 73) (ls := [(3, .int l3_7), (2, .int ((a 2).getD x1.toNatClampNeg 0)), (0, .ref 1), (1, .int x1)]) (st := [.int x1, .ref 1]) (h := ks i7 a7 q7 r7) (i := (.invokevirtual 96, 3, 30, 0, 9, 0, 221)) (mi_k29.2 _ _ (by rfl)) (ft_invS mi_pq30 (by rfl)) (cy := mi_c30) mi_pq30 rfl (kc30_1 hL7.I hL7.R x1 (oz423 fi_64.2 z5.1 z5.2)) (by decide) ?_
              intro ig38 ag38 qg38 rg38 kg38 hg38
              have hGg38 := kG_call hL7 kg38 (by decide +kernel)
              have s39 : (l3_7 + 1).toInt = l3_7.toInt + (1 : Int32).toInt := kd_add (oz12 p7_0 kn1) (oz561 c22 kn5 kn1)
              refine ft_go mi_k29 2 52 [(3, .int (l3_7 + 1)), (2, .int ((a 2).getD x1.toNatClampNeg 0)), (0, .ref 1), (1, .int x1)] [] ig38 ag38 qg38 rg38 (by rfl) ?_
              exact ih7 _ _ _ _ _ hGg38 (oz14 p7_0 s39 kn1) (kj_meas (oz372 s39 kn1) (oz562 c22 kn5) hm7)
      exact lp7 _ _ _ _ _ _ (kG_self _ hJ3.I hJ3.R) (oz46 kn0) (Nat.lt_succ_self _)
    ·
      have c40 : (i 71).toInt = (0 : Int32).toInt := kd_neF c; clear c
      refine ft_go mi_k29 3 36 [(0, .ref 1), (1, .int x1)] [.int x1, .ref 5] (ku (ku (ku i 78 8) 79 0) 80 0) a q r (by rfl) ?_
      refine ko_iald3 mi_k29.1 (n := 8) (c := 8) (ax := (0, 0, 0, 0, 0)) (mi_k29.2 _ _ (by rfl)) (by rfl) (ksG5 _ _ _ _) (hJ3.I.2.1 5) rfl (oz3 z5.1) (oz974 fi_64.2 z5.2) ?_
      refine ft_go mi_k29 1 38 [(0, .ref 1), (1, .int x1)] [.int 1, .int ((a 5).getD x1.toNatClampNeg 0)] (ku (ku (ku i 78 8) 79 0) 80 0) a q r (by rfl) ?_
      refine ft_if mi_k29 (((a 5).getD x1.toNatClampNeg 0) != 1) 43 41 [(0, .ref 1), (1, .int x1)] [] (by rfl) (fun c => ?_) (fun c => ?_)
      ·
        have c41 : ((a 5).getD x1.toNatClampNeg 0).toInt ≠ (1 : Int32).toInt := kd_ne c; clear c
        refine ft_go mi_k29 3 48 [(0, .ref 1), (1, .int x1)] [.int x1, .ref 2] (ku (ku (ku i 78 8) 79 0) 80 0) a q r (by rfl) ?_
        refine ko_iald3 mi_k29.1 (n := 8) (c := 8) (ax := (0, 0, 0, 0, 0)) (mi_k29.2 _ _ (by rfl)) (by rfl) (ksG2 _ _ _ _) (hJ3.I.2.1 2) rfl (oz3 z5.1) (oz974 fi_64.2 z5.2) ?_
        refine ft_go mi_k29 3 52 [(3, .int 0), (2, .int ((a 2).getD x1.toNatClampNeg 0)), (0, .ref 1), (1, .int x1)] [] (ku (ku (ku i 78 8) 79 0) 80 0) a q r (by rfl) ?_
        have lp42 : ∀ (nz : Nat) (i42 : Nat → Int32) (a42 : Nat → List Int32) (q42 : Nat → List Int64) (r42 : Nat → Nat) (l3_42 : Int32), kG w29_1_L52 (ku (ku (ku i 78 8) 79 0) 80 0) a q r i42 a42 q42 r42 → (0 : Int) ≤ l3_42.toInt → ((5 - l3_42.toInt)).toNat < nz → ko 7 (mi_h29, mi_c29) P (52, [(3, .int l3_42), (2, .int ((a 2).getD x1.toNatClampNeg 0)), (0, .ref 1), (1, .int x1)], [], (0, 0), ks i42 a42 q42 r42) := by
          intro nz
          induction nz with
          | zero =>
            intro _ _ _ _ _ _ _ hm
            exact absurd hm (Nat.not_lt_zero _)
          | succ nz ih42 =>
            intro i42 a42 q42 r42 l3_42 hL42 p42_0 hm42
            refine ft_go mi_k29 2 54 [(3, .int l3_42), (2, .int ((a 2).getD x1.toNatClampNeg 0)), (0, .ref 1), (1, .int x1)] [.int 5, .int l3_42] i42 a42 q42 r42 (by rfl) ?_
            refine ft_if mi_k29 (decide (5 ≤ l3_42)) 82 57 [(3, .int l3_42), (2, .int ((a 2).getD x1.toNatClampNeg 0)), (0, .ref 1), (1, .int x1)] [] (by rfl) (fun c => ?_) (fun c => ?_)
            ·
              have c43 : (5 : Int32).toInt ≤ l3_42.toInt := kd_le c; clear c
              have hG44 := kG_call hJ3 hL42 (by decide +kernel)
              refine ft_go mi_k29 4 86 [(3, .int l3_42), (2, .int ((a 2).getD x1.toNatClampNeg 0)), (0, .ref 1), (1, .int x1)] [.int ((a 2).getD x1.toNatClampNeg 0), .int x1, .ref 1, .ref 1] i42 a42 q42 r42 (by rfl) ?_
              refine ko_callI mi_k29.1 (pc := 86) (ls := [(3, .int l3_42), (2, .int ((a 2).getD x1.toNatClampNeg 0)), (0, .ref 1), (1, .int x1)]) (st := [.int ((a 2).getD x1.toNatClampNeg 0), .int x1, .ref 1, .ref 1]) (h := ks i42 a42 q42 r42) (i := (.invokevirtual 100, 3, 31, 0, 9, 0, 223)) (mi_k29.2 _ _ (by rfl)) (ft_invS mi_pq31 (by rfl)) (cy := mi_c31) mi_pq31 rfl (kc31_1 hG44.I hG44.R x1 ((a 2).getD x1.toNatClampNeg 0) (oz423 fi_64.2 z5.1 z5.2)) (by decide) ?_
              intro vg45 ig45 ag45 qg45 rg45 kg45 hg45
              have hGg45 := kG_call hG44 kg45 (by decide +kernel)
              have hJ46 := kG_i hGg45 80 rfl (v := vg45) (kd_bd _)
              refine ft_go mi_k29 6 101 [(3, .int l3_42), (2, .int ((a 2).getD x1.toNatClampNeg 0)), (0, .ref 1), (1, .int x1)] [.int vg45, .int x1, .ref 7] (ku ig45 80 vg45) ag45 qg45 rg45 (by rfl) ?_
              refine ko_callN mi_k29.1 (pc := 101) (ls := [(3, .int l3_42), (2, .int ((a 2).getD x1.toNatClampNeg 0)), (0, .ref 1), (1, .int x1)]) (st := [.int vg45, .int x1, .ref 7]) (h := ks (ku ig45 80 vg45) ag45 qg45 rg45) (i := (.invokevirtual 104, 3, 1, 0, 9, 0, 228)) (mi_k29.2 _ _ (by rfl)) (ft_invS mi_pq1 (by rfl)) (cy := mi_c1) mi_pq1 rfl (kc1_7 hJ46.I hJ46.R x1 vg45) (by decide) ?_
              intro ig47 ag47 qg47 rg47 kg47 hg47
              have hGg47 := kG_call hJ46 kg47 (by decide +kernel)
              have efi42_73 : (i42 73).toInt = (i 73).toInt := hL42.ti 73 rfl
              have efig45_73 : (ig45 73).toInt = (i42 73).toInt := kg45.ti 73 rfl
              have efig47_73 : (ig47 73).toInt = (ig45 73).toInt := kg47.ti 73 rfl
              have b48 : ((-2147483648 : Int) ≤ (ig47 73).toInt) ∧ ((ig47 73).toInt ≤ 2147483647) := kd_bd (ig47 73)
              have hJ49 := kG_i hGg47 73 rfl (v := ((ig47 73) + 1)) (kd_bd _)
              refine ft_go mi_k29 10 120 [(3, .int l3_42), (2, .int ((a 2).getD x1.toNatClampNeg 0)), (0, .ref 1), (1, .int x1)] [.int x1, .ref 6, .int x1, .ref 6] (ku ig47 73 ((ig47 73) + 1)) ag47 qg47 rg47 (by rfl) ?_
              refine ko_iald3 mi_k29.1 (n := 8) (c := 8) (ax := (0, 0, 0, 0, 0)) (mi_k29.2 _ _ (by rfl)) (by rfl) (ksG6 _ _ _ _) (hJ49.I.2.1 6) rfl (oz3 z5.1) (oz974 fi_64.2 z5.2) ?_
              have b50 : ((-2147483648 : Int) ≤ ((ag47 6).getD x1.toNatClampNeg 0).toInt) ∧ (((ag47 6).getD x1.toNatClampNeg 0).toInt ≤ 2147483647) := kd_bd ((ag47 6).getD x1.toNatClampNeg 0)
              refine ft_go mi_k29 2 123 [(3, .int l3_42), (2, .int ((a 2).getD x1.toNatClampNeg 0)), (0, .ref 1), (1, .int x1)] [.int (((ag47 6).getD x1.toNatClampNeg 0) + 1), .int x1, .ref 6] (ku ig47 73 ((ig47 73) + 1)) ag47 qg47 rg47 (by rfl) ?_
              refine ko_iast3 mi_k29.1 (n := 8) (c := 8) (ax := (0, 0, 0, 0, 0)) (mi_k29.2 _ _ (by rfl)) (by rfl) (ksG6 _ _ _ _) (ksA6 _ _ _ _) (hJ49.I.2.1 6) rfl (oz3 z5.1) (oz974 fi_64.2 z5.2) ?_
              intro a51 ea51 fa51
              have hJ51 := kG_a3 hJ49 6 rfl ea51 fa51 (kd_bd _)
              refine ft_go mi_k29 4 130 [(3, .int l3_42), (2, .int ((a 2).getD x1.toNatClampNeg 0)), (0, .ref 1), (1, .int x1)] [.int 0, .ref 14, .int 0, .ref 14] (ku ig47 73 ((ig47 73) + 1)) a51 qg47 rg47 (by rfl) ?_
              refine ko_iald3 mi_k29.1 (n := 5) (c := 5) (ax := (0, 0, 0, 0, 0)) (mi_k29.2 _ _ (by rfl)) (by rfl) (ksG14 _ _ _ _) (hJ51.I.2.1 14) rfl (oz46 kn0) (oz547 kn0) ?_
              have b52 : ((-2147483648 : Int) ≤ ((a51 14).getD (0 : Int32).toNatClampNeg 0).toInt) ∧ (((a51 14).getD (0 : Int32).toNatClampNeg 0).toInt ≤ 2147483647) := kd_bd ((a51 14).getD (0 : Int32).toNatClampNeg 0)
              refine ft_go mi_k29 2 133 [(3, .int l3_42), (2, .int ((a 2).getD x1.toNatClampNeg 0)), (0, .ref 1), (1, .int x1)] [.int (((a51 14).getD (0 : Int32).toNatClampNeg 0) + 1), .int 0, .ref 14] (ku ig47 73 ((ig47 73) + 1)) a51 qg47 rg47 (by rfl) ?_
              refine ko_iast3 mi_k29.1 (n := 5) (c := 5) (ax := (0, 0, 0, 0, 0)) (mi_k29.2 _ _ (by rfl)) (by rfl) (ksG14 _ _ _ _) (ksA14 _ _ _ _) (hJ51.I.2.1 14) rfl (oz46 kn0) (oz547 kn0) ?_
              intro a53 ea53 fa53
              have hJ53 := kG_a3 hJ51 14 rfl ea53 fa53 (kd_bd _)
              refine ft_go mi_k29 4 140 [(3, .int l3_42), (2, .int ((a 2).getD x1.toNatClampNeg 0)), (0, .ref 1), (1, .int x1)] [.int 1, .ref 14, .int 1, .ref 14] (ku ig47 73 ((ig47 73) + 1)) a53 qg47 rg47 (by rfl) ?_
              refine ko_iald3 mi_k29.1 (n := 5) (c := 5) (ax := (0, 0, 0, 0, 0)) (mi_k29.2 _ _ (by rfl)) (by rfl) (ksG14 _ _ _ _) (hJ53.I.2.1 14) rfl (oz246 kn1) (oz548 kn1) ?_
              have efig45_79 : (ig45 79).toInt = (i42 79).toInt := kg45.ti 79 rfl
              have efig47_79 : (ig47 79).toInt = (ig45 79).toInt := kg47.ti 79 rfl
              have b54 : ((-2147483648 : Int) ≤ ((a53 14).getD (1 : Int32).toNatClampNeg 0).toInt) ∧ (((a53 14).getD (1 : Int32).toNatClampNeg 0).toInt ≤ 2147483647) := kd_bd ((a53 14).getD (1 : Int32).toNatClampNeg 0)
              have b55 : ((-2147483648 : Int) ≤ (ig47 79).toInt) ∧ ((ig47 79).toInt ≤ 2147483647) := kd_bd (ig47 79)
              refine ft_go mi_k29 3 146 [(3, .int l3_42), (2, .int ((a 2).getD x1.toNatClampNeg 0)), (0, .ref 1), (1, .int x1)] [.int (((a53 14).getD (1 : Int32).toNatClampNeg 0) + (ig47 79)), .int 1, .ref 14] (ku ig47 73 ((ig47 73) + 1)) a53 qg47 rg47 (by rfl) ?_
              refine ko_iast3 mi_k29.1 (n := 5) (c := 5) (ax := (0, 0, 0, 0, 0)) (mi_k29.2 _ _ (by rfl)) (by rfl) (ksG14 _ _ _ _) (ksA14 _ _ _ _) (hJ53.I.2.1 14) rfl (oz246 kn1) (oz548 kn1) ?_
              intro a56 ea56 fa56
              have hJ56 := kG_a3 hJ53 14 rfl ea56 fa56 (kd_bd _)
              refine ft_go mi_k29 2 151 [(3, .int l3_42), (2, .int ((a 2).getD x1.toNatClampNeg 0)), (0, .ref 1), (1, .int x1)] [.int (ig47 79)] (ku ig47 73 ((ig47 73) + 1)) a56 qg47 rg47 (by rfl) ?_
              exact ft_ret mi_k29 (by rfl) (hP (ig47 79) _ _ _ _ hJ56 trivial)
            ·
              have c57 : l3_42.toInt < (5 : Int32).toInt := kd_leF c; clear c
              have fi42_450 : ((0 : Int) ≤ (i42 450).toInt) ∧ ((i42 450).toInt ≤ 5) := hL42.I.1 450
              have efi42_70 : (i42 70).toInt = (i 70).toInt := hL42.ti 70 rfl
              refine ft_go mi_k29 5 68 [(3, .int l3_42), (2, .int ((a 2).getD x1.toNatClampNeg 0)), (0, .ref 1), (1, .int x1)] [.int (i42 70), .int (i42 450)] i42 a42 q42 r42 (by rfl) ?_
              refine ft_if mi_k29 (decide ((i42 450) < (i42 70))) 82 71 [(3, .int l3_42), (2, .int ((a 2).getD x1.toNatClampNeg 0)), (0, .ref 1), (1, .int x1)] [] (by rfl) (fun c => ?_) (fun c => ?_)
              ·
                have c58 : (i42 450).toInt < (i42 70).toInt := kd_lt c; clear c
                have hG59 := kG_call hJ3 hL42 (by decide +kernel)
                refine ft_go mi_k29 4 86 [(3, .int l3_42), (2, .int ((a 2).getD x1.toNatClampNeg 0)), (0, .ref 1), (1, .int x1)] [.int ((a 2).getD x1.toNatClampNeg 0), .int x1, .ref 1, .ref 1] i42 a42 q42 r42 (by rfl) ?_
                refine ko_callI mi_k29.1 (pc := 86) (ls := [(3, .int l3_42), (2, .int ((a 2).getD x1.toNatClampNeg 0)), (0, .ref 1), (1, .int x1)]) (st := [.int ((a 2).getD x1.toNatClampNeg 0), .int x1, .ref 1, .ref 1]) (h := ks i42 a42 q42 r42) (i := (.invokevirtual 100, 3, 31, 0, 9, 0, 223)) (mi_k29.2 _ _ (by rfl)) (ft_invS mi_pq31 (by rfl)) (cy := mi_c31) mi_pq31 rfl (kc31_1 hG59.I hG59.R x1 ((a 2).getD x1.toNatClampNeg 0) (oz423 fi_64.2 z5.1 z5.2)) (by decide) ?_
                intro vg60 ig60 ag60 qg60 rg60 kg60 hg60
                have hGg60 := kG_call hG59 kg60 (by decide +kernel)
                have hJ61 := kG_i hGg60 80 rfl (v := vg60) (kd_bd _)
                refine ft_go mi_k29 6 101 [(3, .int l3_42), (2, .int ((a 2).getD x1.toNatClampNeg 0)), (0, .ref 1), (1, .int x1)] [.int vg60, .int x1, .ref 7] (ku ig60 80 vg60) ag60 qg60 rg60 (by rfl) ?_
                refine ko_callN mi_k29.1 (pc := 101) (ls := [(3, .int l3_42), (2, .int ((a 2).getD x1.toNatClampNeg 0)), (0, .ref 1), (1, .int x1)]) (st := [.int vg60, .int x1, .ref 7]) (h := ks (ku ig60 80 vg60) ag60 qg60 rg60) (i := (.invokevirtual 104, 3, 1, 0, 9, 0, 228)) (mi_k29.2 _ _ (by rfl)) (ft_invS mi_pq1 (by rfl)) (cy := mi_c1) mi_pq1 rfl (kc1_7 hJ61.I hJ61.R x1 vg60) (by decide) ?_
                intro ig62 ag62 qg62 rg62 kg62 hg62
                have hGg62 := kG_call hJ61 kg62 (by decide +kernel)
                have efi42_73 : (i42 73).toInt = (i 73).toInt := hL42.ti 73 rfl
                have efig60_73 : (ig60 73).toInt = (i42 73).toInt := kg60.ti 73 rfl
                have efig62_73 : (ig62 73).toInt = (ig60 73).toInt := kg62.ti 73 rfl
                have b63 : ((-2147483648 : Int) ≤ (ig62 73).toInt) ∧ ((ig62 73).toInt ≤ 2147483647) := kd_bd (ig62 73)
                have hJ64 := kG_i hGg62 73 rfl (v := ((ig62 73) + 1)) (kd_bd _)
                refine ft_go mi_k29 10 120 [(3, .int l3_42), (2, .int ((a 2).getD x1.toNatClampNeg 0)), (0, .ref 1), (1, .int x1)] [.int x1, .ref 6, .int x1, .ref 6] (ku ig62 73 ((ig62 73) + 1)) ag62 qg62 rg62 (by rfl) ?_
                refine ko_iald3 mi_k29.1 (n := 8) (c := 8) (ax := (0, 0, 0, 0, 0)) (mi_k29.2 _ _ (by rfl)) (by rfl) (ksG6 _ _ _ _) (hJ64.I.2.1 6) rfl (oz3 z5.1) (oz974 fi_64.2 z5.2) ?_
                have b65 : ((-2147483648 : Int) ≤ ((ag62 6).getD x1.toNatClampNeg 0).toInt) ∧ (((ag62 6).getD x1.toNatClampNeg 0).toInt ≤ 2147483647) := kd_bd ((ag62 6).getD x1.toNatClampNeg 0)
                refine ft_go mi_k29 2 123 [(3, .int l3_42), (2, .int ((a 2).getD x1.toNatClampNeg 0)), (0, .ref 1), (1, .int x1)] [.int (((ag62 6).getD x1.toNatClampNeg 0) + 1), .int x1, .ref 6] (ku ig62 73 ((ig62 73) + 1)) ag62 qg62 rg62 (by rfl) ?_
                refine ko_iast3 mi_k29.1 (n := 8) (c := 8) (ax := (0, 0, 0, 0, 0)) (mi_k29.2 _ _ (by rfl)) (by rfl) (ksG6 _ _ _ _) (ksA6 _ _ _ _) (hJ64.I.2.1 6) rfl (oz3 z5.1) (oz974 fi_64.2 z5.2) ?_
                intro a66 ea66 fa66
                have hJ66 := kG_a3 hJ64 6 rfl ea66 fa66 (kd_bd _)
                refine ft_go mi_k29 4 130 [(3, .int l3_42), (2, .int ((a 2).getD x1.toNatClampNeg 0)), (0, .ref 1), (1, .int x1)] [.int 0, .ref 14, .int 0, .ref 14] (ku ig62 73 ((ig62 73) + 1)) a66 qg62 rg62 (by rfl) ?_
                refine ko_iald3 mi_k29.1 (n := 5) (c := 5) (ax := (0, 0, 0, 0, 0)) (mi_k29.2 _ _ (by rfl)) (by rfl) (ksG14 _ _ _ _) (hJ66.I.2.1 14) rfl (oz46 kn0) (oz547 kn0) ?_
                have b67 : ((-2147483648 : Int) ≤ ((a66 14).getD (0 : Int32).toNatClampNeg 0).toInt) ∧ (((a66 14).getD (0 : Int32).toNatClampNeg 0).toInt ≤ 2147483647) := kd_bd ((a66 14).getD (0 : Int32).toNatClampNeg 0)
                refine ft_go mi_k29 2 133 [(3, .int l3_42), (2, .int ((a 2).getD x1.toNatClampNeg 0)), (0, .ref 1), (1, .int x1)] [.int (((a66 14).getD (0 : Int32).toNatClampNeg 0) + 1), .int 0, .ref 14] (ku ig62 73 ((ig62 73) + 1)) a66 qg62 rg62 (by rfl) ?_
                refine ko_iast3 mi_k29.1 (n := 5) (c := 5) (ax := (0, 0, 0, 0, 0)) (mi_k29.2 _ _ (by rfl)) (by rfl) (ksG14 _ _ _ _) (ksA14 _ _ _ _) (hJ66.I.2.1 14) rfl (oz46 kn0) (oz547 kn0) ?_
                intro a68 ea68 fa68
                have hJ68 := kG_a3 hJ66 14 rfl ea68 fa68 (kd_bd _)
                refine ft_go mi_k29 4 140 [(3, .int l3_42), (2, .int ((a 2).getD x1.toNatClampNeg 0)), (0, .ref 1), (1, .int x1)] [.int 1, .ref 14, .int 1, .ref 14] (ku ig62 73 ((ig62 73) + 1)) a68 qg62 rg62 (by rfl) ?_
                refine ko_iald3 mi_k29.1 (n := 5) (c := 5) (ax := (0, 0, 0, 0, 0)) (mi_k29.2 _ _ (by rfl)) (by rfl) (ksG14 _ _ _ _) (hJ68.I.2.1 14) rfl (oz246 kn1) (oz548 kn1) ?_
                have efig60_79 : (ig60 79).toInt = (i42 79).toInt := kg60.ti 79 rfl
                have efig62_79 : (ig62 79).toInt = (ig60 79).toInt := kg62.ti 79 rfl
                have b69 : ((-2147483648 : Int) ≤ ((a68 14).getD (1 : Int32).toNatClampNeg 0).toInt) ∧ (((a68 14).getD (1 : Int32).toNatClampNeg 0).toInt ≤ 2147483647) := kd_bd ((a68 14).getD (1 : Int32).toNatClampNeg 0)
                have b70 : ((-2147483648 : Int) ≤ (ig62 79).toInt) ∧ ((ig62 79).toInt ≤ 2147483647) := kd_bd (ig62 79)
                refine ft_go mi_k29 3 146 [(3, .int l3_42), (2, .int ((a 2).getD x1.toNatClampNeg 0)), (0, .ref 1), (1, .int x1)] [.int (((a68 14).getD (1 : Int32).toNatClampNeg 0) + (ig62 79)), .int 1, .ref 14] (ku ig62 73 ((ig62 73) + 1)) a68 qg62 rg62 (by rfl) ?_
                refine ko_iast3 mi_k29.1 (n := 5) (c := 5) (ax := (0, 0, 0, 0, 0)) (mi_k29.2 _ _ (by rfl)) (by rfl) (ksG14 _ _ _ _) (ksA14 _ _ _ _) (hJ68.I.2.1 14) rfl (oz246 kn1) (oz548 kn1) ?_
                intro a71 ea71 fa71
                have hJ71 := kG_a3 hJ68 14 rfl ea71 fa71 (kd_bd _)
                refine ft_go mi_k29 2 151 [(3, .int l3_42), (2, .int ((a 2).getD x1.toNatClampNeg 0)), (0, .ref 1), (1, .int x1)] [.int (ig62 79)] (ku ig62 73 ((ig62 73) + 1)) a71 qg62 rg62 (by rfl) ?_
                exact ft_ret mi_k29 (by rfl) (hP (ig62 79) _ _ _ _ hJ71 trivial)
              ·
                have c72 : (i42 70).toInt ≤ (i42 450).toInt := kd_ltF c; clear c
                refine ft_go mi_k29 2 73 [(3, .int l3_42), (2, .int ((a 2).getD x1.toNatClampNeg 0)), (0, .ref 1), (1, .int x1)] [.int x1, .ref 1] i42 a42 q42 r42 (by rfl) ?_
                refine ko_callN mi_k29.1 (pc := 73) (ls := [(3, .int l3_42), (2, .int ((a 2).getD x1.toNatClampNeg 0)), (0, .ref 1), (1, .int x1)]) (st := [.int x1, .ref 1]) (h := ks i42 a42 q42 r42) (i := (.invokevirtual 96, 3, 30, 0, 9, 0, 221)) (mi_k29.2 _ _ (by rfl)) (ft_invS mi_pq30 (by rfl)) (cy := mi_c30) mi_pq30 rfl (kc30_1 hL42.I hL42.R x1 (oz423 fi_64.2 z5.1 z5.2)) (by decide) ?_
                intro ig73 ag73 qg73 rg73 kg73 hg73
                have hGg73 := kG_call hL42 kg73 (by decide +kernel)
                have s74 : (l3_42 + 1).toInt = l3_42.toInt + (1 : Int32).toInt := kd_add (oz12 p42_0 kn1) (oz561 c57 kn5 kn1)
                refine ft_go mi_k29 2 52 [(3, .int (l3_42 + 1)), (2, .int ((a 2).getD x1.toNatClampNeg 0)), (0, .ref 1), (1, .int x1)] [] ig73 ag73 qg73 rg73 (by rfl) ?_
                exact ih42 _ _ _ _ _ hGg73 (oz14 p42_0 s74 kn1) (kj_meas (oz372 s74 kn1) (oz562 c57 kn5) hm42)
        exact lp42 _ _ _ _ _ _ (kG_self _ hJ3.I hJ3.R) (oz46 kn0) (Nat.lt_succ_self _)
      ·
        have c75 : ((a 5).getD x1.toNatClampNeg 0).toInt = (1 : Int32).toInt := kd_neF c; clear c
        refine ft_go mi_k29 1 42 [(0, .ref 1), (1, .int x1)] [.int 0] (ku (ku (ku i 78 8) 79 0) 80 0) a q r (by rfl) ?_
        exact ft_ret mi_k29 (by rfl) (hP 0 _ _ _ _ hJ3 trivial)
  ·
    subst eg4
    have fi_64 : ((0 : Int) ≤ (i 64).toInt) ∧ ((i 64).toInt ≤ 8) := hJ3.I.1 64
    have z76 : ¬ (((0 : Int) ≤ x1.toInt) ∧ (x1.toInt < (i 64).toInt)) := hg4
    refine ft_go mi_k29 2 42 [(0, .ref 1), (1, .int x1)] [.int 0] (ku (ku (ku i 78 8) 79 0) 80 0) a q r (by rfl) ?_
    exact ft_ret mi_k29 (by rfl) (hP 0 _ _ _ _ hJ3 trivial)
def w102_0 : kW := ([73, 78, 79, 80, 450, 645, 6405], [2, 6, 8, 9, 13, 14, 16, 17, 18, 19, 20, 21, 22, 23, 24, 103], [], [])
set_option maxRecDepth 100000 in
theorem kc102_0 {i : Nat → Int32} {a : Nat → List Int32} {q : Nat → List Int64} {r : Nat → Nat} (hI : kI i a q) (hr : kr r) (x1 : Int32) : km 9 102 [.ref 0, .int x1] (ks i a q r) (kVI w102_0 i a q r (fun v i1 a1 q1 r1 => True)) := by
  have hG := kG_self w102_0 hI hr
  refine km_ofI (q := (mi_h102, mi_c102)) rfl (by decide) (Nat.le_of_ble_eq_true rfl) ?_
  intro P hP
  refine ft_go mi_k102 2 2 [(0, .ref 0), (1, .int x1)] [.int x1, .ref 0] i a q r (by rfl) ?_
  refine ko_callPI mi_k102.1 (pc := 2) (ls := [(0, .ref 0), (1, .int x1)]) (st := [.int x1, .ref 0]) (h := ks i a q r) (i := (.invokevirtual 141, 3, 123, 0, 9, 0, 162)) (mi_k102.2 _ _ (by rfl)) (ft_invS mi_pq123 (by rfl)) (cy := mi_c123) mi_pq123 rfl (kc123_0 hG.I hG.R x1) (by decide) ?_
  intro vg1 hg1
  rcases hg1 with ⟨eg1, hg1⟩ | ⟨eg1, hg1⟩
  ·
    subst eg1
    have fi_64 : ((0 : Int) ≤ (i 64).toInt) ∧ ((i 64).toInt ≤ 8) := hG.I.1 64
    have z2 : ((0 : Int) ≤ x1.toInt) ∧ (x1.toInt < (i 64).toInt) := hg1
    refine ft_go mi_k102 4 13 [(0, .ref 0), (1, .int x1)] [.int x1, .ref 1] i a q r (by rfl) ?_
    refine ko_callI mi_k102.1 (pc := 13) (ls := [(0, .ref 0), (1, .int x1)]) (st := [.int x1, .ref 1]) (h := ks i a q r) (i := (.invokevirtual 255, 3, 29, 0, 9, 0, 281)) (mi_k102.2 _ _ (by rfl)) (ft_invS mi_pq29 (by rfl)) (cy := mi_c29) mi_pq29 rfl (kc29_1 hG.I hG.R x1) (by decide) ?_
    intro vg3 ig3 ag3 qg3 rg3 kg3 hg3
    have hGg3 := kG_call hG kg3 (by decide +kernel)
    refine ft_go mi_k102 1 20 [(0, .ref 0), (1, .int x1)] [.int vg3] ig3 ag3 qg3 rg3 (by rfl) ?_
    exact ft_ret mi_k102 (by rfl) (hP vg3 _ _ _ _ hGg3 trivial)
  ·
    subst eg1
    have fi_64 : ((0 : Int) ≤ (i 64).toInt) ∧ ((i 64).toInt ≤ 8) := hG.I.1 64
    have z4 : ¬ (((0 : Int) ≤ x1.toInt) ∧ (x1.toInt < (i 64).toInt)) := hg1
    refine ft_go mi_k102 2 20 [(0, .ref 0), (1, .int x1)] [.int (-1)] i a q r (by rfl) ?_
    exact ft_ret mi_k102 (by rfl) (hP (-1) _ _ _ _ hG trivial)
def w32_1 : kW := ([72, 73], [6, 14], [], [])
def w32_1_L22 : kW := ([], [6], [], [])
set_option maxRecDepth 100000 in
theorem kc32_1 {i : Nat → Int32} {a : Nat → List Int32} {q : Nat → List Int64} {r : Nat → Nat} (hI : kI i a q) (hr : kr r)  : km 1 32 [.ref 1] (ks i a q r) (kVN w32_1 i a q r (fun i1 a1 q1 r1 => True)) := by
  have hG := kG_self w32_1 hI hr
  refine km_ofN (q := (mi_h32, mi_c32)) rfl (by decide) (Nat.le_of_ble_eq_true rfl) ?_
  intro P hP
  have b1 : ((-2147483648 : Int) ≤ (i 72).toInt) ∧ ((i 72).toInt ≤ 2147483647) := kd_bd (i 72)
  refine ft_go mi_k32 6 9 [(0, .ref 1)] [.int ((i 72) + 1), .int 99, .ref 1] i a q r (by rfl) ?_
  have m3 : (((bif decide (((i 72) + 1) < 99) then ((i 72) + 1) else 99).toInt ≤ (99 : Int32).toInt) ∧ ((bif decide (((i 72) + 1) < 99) then ((i 72) + 1) else 99).toInt ≤ ((i 72) + 1).toInt)) ∧ ((bif decide (((i 72) + 1) < 99) then ((i 72) + 1) else 99).toInt = (99 : Int32).toInt ∨ (bif decide (((i 72) + 1) < 99) then ((i 72) + 1) else 99).toInt = ((i 72) + 1).toInt) := kd_min
  refine ft_go mi_k32 1 12 [(0, .ref 1)] [.int (bif decide (((i 72) + 1) < 99) then ((i 72) + 1) else 99), .ref 1] i a q r (by rfl) ?_
  generalize (bif decide (((i 72) + 1) < 99) then ((i 72) + 1) else 99) = m2 at m3 ⊢
  have hJ4 := kG_i hG 72 rfl (v := m2) (kd_bd _)
  have hJ5 := kG_i hJ4 73 rfl (v := 0) (kd_bd _)
  refine ft_go mi_k32 6 22 [(1, .int 0), (0, .ref 1)] [] (ku (ku i 72 m2) 73 0) a q r (by rfl) ?_
  have lp6 : ∀ (nz : Nat) (i6 : Nat → Int32) (a6 : Nat → List Int32) (q6 : Nat → List Int64) (r6 : Nat → Nat) (l1_6 : Int32), kG w32_1_L22 (ku (ku i 72 m2) 73 0) a q r i6 a6 q6 r6 → (0 : Int) ≤ l1_6.toInt → ((8 - l1_6.toInt)).toNat < nz → ko 1 (mi_h32, mi_c32) P (22, [(1, .int l1_6), (0, .ref 1)], [], (0, 0), ks i6 a6 q6 r6) := by
    intro nz
    induction nz with
    | zero =>
      intro _ _ _ _ _ _ _ hm
      exact absurd hm (Nat.not_lt_zero _)
    | succ nz ih6 =>
      intro i6 a6 q6 r6 l1_6 hL6 p6_0 hm6
      refine ft_go mi_k32 2 25 [(1, .int l1_6), (0, .ref 1)] [.int 8, .int l1_6] i6 a6 q6 r6 (by rfl) ?_
      refine ft_if mi_k32 (decide (8 ≤ l1_6)) 41 28 [(1, .int l1_6), (0, .ref 1)] [] (by rfl) (fun c => ?_) (fun c => ?_)
      ·
        have c7 : (8 : Int32).toInt ≤ l1_6.toInt := kd_le c; clear c
        have hG8 := kG_call hJ5 hL6 (by decide +kernel)
        refine ft_go mi_k32 4 47 [(1, .int l1_6), (0, .ref 1)] [.int 3, .ref 14, .int 3, .ref 14] i6 a6 q6 r6 (by rfl) ?_
        refine ko_iald3 mi_k32.1 (n := 5) (c := 5) (ax := (0, 0, 0, 0, 0)) (mi_k32.2 _ _ (by rfl)) (by rfl) (ksG14 _ _ _ _) (hG8.I.2.1 14) rfl (oz260 kn3) (oz550 kn3) ?_
        have b9 : ((-2147483648 : Int) ≤ ((a6 14).getD (3 : Int32).toNatClampNeg 0).toInt) ∧ (((a6 14).getD (3 : Int32).toNatClampNeg 0).toInt ≤ 2147483647) := kd_bd ((a6 14).getD (3 : Int32).toNatClampNeg 0)
        refine ft_go mi_k32 2 50 [(1, .int l1_6), (0, .ref 1)] [.int (((a6 14).getD (3 : Int32).toNatClampNeg 0) + 1), .int 3, .ref 14] i6 a6 q6 r6 (by rfl) ?_
        refine ko_iast3 mi_k32.1 (n := 5) (c := 5) (ax := (0, 0, 0, 0, 0)) (mi_k32.2 _ _ (by rfl)) (by rfl) (ksG14 _ _ _ _) (ksA14 _ _ _ _) (hG8.I.2.1 14) rfl (oz260 kn3) (oz550 kn3) ?_
        intro a10 ea10 fa10
        have hJ10 := kG_a3 hG8 14 rfl ea10 fa10 (kd_bd _)
        exact ft_ret mi_k32 (by rfl) (hP  _ _ _ _ hJ10 trivial)
      ·
        have c11 : l1_6.toInt < (8 : Int32).toInt := kd_leF c; clear c
        refine ft_go mi_k32 4 34 [(1, .int l1_6), (0, .ref 1)] [.int 0, .int l1_6, .ref 6] i6 a6 q6 r6 (by rfl) ?_
        refine ko_iast3 mi_k32.1 (n := 8) (c := 8) (ax := (0, 0, 0, 0, 0)) (mi_k32.2 _ _ (by rfl)) (by rfl) (ksG6 _ _ _ _) (ksA6 _ _ _ _) (hL6.I.2.1 6) rfl (oz3 p6_0) (oz936 c11 kn8) ?_
        intro a12 ea12 fa12
        have hJ12 := kG_a3 hL6 6 rfl ea12 fa12 (kd_bd _)
        have s13 : (l1_6 + 1).toInt = l1_6.toInt + (1 : Int32).toInt := kd_add (oz12 p6_0 kn1) (oz474 c11 kn8 kn1)
        refine ft_go mi_k32 2 22 [(1, .int (l1_6 + 1)), (0, .ref 1)] [] i6 a12 q6 r6 (by rfl) ?_
        exact ih6 _ _ _ _ _ hJ12 (oz14 p6_0 s13 kn1) (kj_meas (oz475 s13 kn1) (oz476 c11 kn8) hm6)
  exact lp6 _ _ _ _ _ _ (kG_self _ hJ5.I hJ5.R) (oz46 kn0) (Nat.lt_succ_self _)
def w103_0 : kW := ([72, 73], [6, 14], [], [])
set_option maxRecDepth 100000 in
theorem kc103_0 {i : Nat → Int32} {a : Nat → List Int32} {q : Nat → List Int64} {r : Nat → Nat} (hI : kI i a q) (hr : kr r)  : km 3 103 [.ref 0] (ks i a q r) (kVI w103_0 i a q r (fun v i1 a1 q1 r1 => True)) := by
  have hG := kG_self w103_0 hI hr
  refine km_ofI (q := (mi_h103, mi_c103)) rfl (by decide) (Nat.le_of_ble_eq_true rfl) ?_
  intro P hP
  refine ft_go mi_k103 2 4 [(0, .ref 0)] [.ref 1] i a q r (by rfl) ?_
  refine ko_callN mi_k103.1 (pc := 4) (ls := [(0, .ref 0)]) (st := [.ref 1]) (h := ks i a q r) (i := (.invokevirtual 258, 3, 32, 0, 9, 0, 283)) (mi_k103.2 _ _ (by rfl)) (ft_invS mi_pq32 (by rfl)) (cy := mi_c32) mi_pq32 rfl (kc32_1 hG.I hG.R ) (by decide) ?_
  intro ig1 ag1 qg1 rg1 kg1 hg1
  have hGg1 := kG_call hG kg1 (by decide +kernel)
  refine ft_go mi_k103 3 14 [(0, .ref 0)] [.int (ig1 72)] ig1 ag1 qg1 rg1 (by rfl) ?_
  exact ft_ret mi_k103 (by rfl) (hP (ig1 72) _ _ _ _ hGg1 trivial)
def w104_0 : kW := ([], [2, 14], [], [])
set_option maxRecDepth 100000 in
theorem kc104_0 {i : Nat → Int32} {a : Nat → List Int32} {q : Nat → List Int64} {r : Nat → Nat} (hI : kI i a q) (hr : kr r) (x1 : Int32) (x2 : Int32) (x3 : Int32) : km 5 104 [.ref 0, .int x1, .int x2, .int x3] (ks i a q r) (kVI w104_0 i a q r (fun v i1 a1 q1 r1 => True)) := by
  have hG := kG_self w104_0 hI hr
  refine km_ofI (q := (mi_h104, mi_c104)) rfl (by decide) (Nat.le_of_ble_eq_true rfl) ?_
  intro P hP
  refine ft_go mi_k104 2 2 [(0, .ref 0), (1, .int x1), (2, .int x2), (3, .int x3)] [.int x1, .ref 0] i a q r (by rfl) ?_
  refine ko_callPI mi_k104.1 (pc := 2) (ls := [(0, .ref 0), (1, .int x1), (2, .int x2), (3, .int x3)]) (st := [.int x1, .ref 0]) (h := ks i a q r) (i := (.invokevirtual 141, 3, 123, 0, 9, 0, 162)) (mi_k104.2 _ _ (by rfl)) (ft_invS mi_pq123 (by rfl)) (cy := mi_c123) mi_pq123 rfl (kc123_0 hG.I hG.R x1) (by decide) ?_
  intro vg1 hg1
  rcases hg1 with ⟨eg1, hg1⟩ | ⟨eg1, hg1⟩
  ·
    subst eg1
    have fi_64 : ((0 : Int) ≤ (i 64).toInt) ∧ ((i 64).toInt ≤ 8) := hG.I.1 64
    have z2 : ((0 : Int) ≤ x1.toInt) ∧ (x1.toInt < (i 64).toInt) := hg1
    refine ft_go mi_k104 3 10 [(0, .ref 0), (1, .int x1), (2, .int x2), (3, .int x3)] [.int x2, .ref 0] i a q r (by rfl) ?_
    refine ko_callPI mi_k104.1 (pc := 10) (ls := [(0, .ref 0), (1, .int x1), (2, .int x2), (3, .int x3)]) (st := [.int x2, .ref 0]) (h := ks i a q r) (i := (.invokevirtual 141, 3, 123, 0, 9, 0, 162)) (mi_k104.2 _ _ (by rfl)) (ft_invS mi_pq123 (by rfl)) (cy := mi_c123) mi_pq123 rfl (kc123_0 hG.I hG.R x2) (by decide) ?_
    intro vg3 hg3
    rcases hg3 with ⟨eg3, hg3⟩ | ⟨eg3, hg3⟩
    ·
      subst eg3
      have z4 : ((0 : Int) ≤ x2.toInt) ∧ (x2.toInt < (i 64).toInt) := hg3
      refine ft_go mi_k104 3 18 [(0, .ref 0), (1, .int x1), (2, .int x2), (3, .int x3)] [.int x2, .int x1] i a q r (by rfl) ?_
      refine ft_if mi_k104 (x1 == x2) 32 21 [(0, .ref 0), (1, .int x1), (2, .int x2), (3, .int x3)] [] (by rfl) (fun c => ?_) (fun c => ?_)
      ·
        have c5 : x1.toInt = x2.toInt := kd_eq c; clear c
        refine ft_go mi_k104 1 33 [(0, .ref 0), (1, .int x1), (2, .int x2), (3, .int x3)] [.int (-1)] i a q r (by rfl) ?_
        exact ft_ret mi_k104 (by rfl) (hP (-1) _ _ _ _ hG trivial)
      ·
        have c6 : x1.toInt ≠ x2.toInt := kd_eqF c; clear c
        refine ft_go mi_k104 3 26 [(0, .ref 0), (1, .int x1), (2, .int x2), (3, .int x3)] [.int 999, .int 1, .int x3] i a q r (by rfl) ?_
        refine ko_callPI mi_k104.1 (pc := 26) (ls := [(0, .ref 0), (1, .int x1), (2, .int x2), (3, .int x3)]) (st := [.int 999, .int 1, .int x3]) (h := ks i a q r) (i := (.invokestatic 74, 3, 120, 0, 9, 0, 152)) (mi_k104.2 _ _ (by rfl)) (ft_invS mi_pq120 (by rfl)) (cy := mi_c120) mi_pq120 rfl (kc120 hG.I hG.R x3 1 999) (by decide) ?_
        intro vg7 hg7
        rcases hg7 with ⟨eg7, hg7⟩ | ⟨eg7, hg7⟩
        ·
          subst eg7
          have z8 : ((1 : Int32).toInt ≤ x3.toInt) ∧ (x3.toInt ≤ (999 : Int32).toInt) := hg7
          refine ft_go mi_k104 5 42 [(0, .ref 0), (1, .int x1), (2, .int x2), (3, .int x3)] [.int x1, .ref 2] i a q r (by rfl) ?_
          refine ko_iald3 mi_k104.1 (n := 8) (c := 8) (ax := (0, 0, 0, 0, 0)) (mi_k104.2 _ _ (by rfl)) (by rfl) (ksG2 _ _ _ _) (hG.I.2.1 2) rfl (oz3 z2.1) (oz974 fi_64.2 z2.2) ?_
          refine ft_go mi_k104 1 44 [(0, .ref 0), (1, .int x1), (2, .int x2), (3, .int x3)] [.int x3, .int ((a 2).getD x1.toNatClampNeg 0)] i a q r (by rfl) ?_
          refine ft_if mi_k104 (decide (x3 ≤ ((a 2).getD x1.toNatClampNeg 0))) 50 47 [(0, .ref 0), (1, .int x1), (2, .int x2), (3, .int x3)] [] (by rfl) (fun c => ?_) (fun c => ?_)
          ·
            have c9 : x3.toInt ≤ ((a 2).getD x1.toNatClampNeg 0).toInt := kd_le c; clear c
            refine ft_go mi_k104 5 59 [(0, .ref 0), (1, .int x1), (2, .int x2), (3, .int x3)] [.int x1, .ref 2, .int x1, .ref 2] i a q r (by rfl) ?_
            refine ko_iald3 mi_k104.1 (n := 8) (c := 8) (ax := (0, 0, 0, 0, 0)) (mi_k104.2 _ _ (by rfl)) (by rfl) (ksG2 _ _ _ _) (hG.I.2.1 2) rfl (oz3 z2.1) (oz974 fi_64.2 z2.2) ?_
            have b10 : ((-2147483648 : Int) ≤ ((a 2).getD x1.toNatClampNeg 0).toInt) ∧ (((a 2).getD x1.toNatClampNeg 0).toInt ≤ 2147483647) := kd_bd ((a 2).getD x1.toNatClampNeg 0)
            have b11 : ((-2147483648 : Int) ≤ x3.toInt) ∧ (x3.toInt ≤ 2147483647) := kd_bd x3
            have s12 : (((a 2).getD x1.toNatClampNeg 0) - x3).toInt = ((a 2).getD x1.toNatClampNeg 0).toInt - x3.toInt := kd_sub (oz551 c9) (oz552 b10.2 z8.1 kn1)
            refine ft_go mi_k104 2 62 [(0, .ref 0), (1, .int x1), (2, .int x2), (3, .int x3)] [.int (((a 2).getD x1.toNatClampNeg 0) - x3), .int x1, .ref 2] i a q r (by rfl) ?_
            refine ko_iast3 mi_k104.1 (n := 8) (c := 8) (ax := (0, 0, 0, 0, 0)) (mi_k104.2 _ _ (by rfl)) (by rfl) (ksG2 _ _ _ _) (ksA2 _ _ _ _) (hG.I.2.1 2) rfl (oz3 z2.1) (oz974 fi_64.2 z2.2) ?_
            intro a13 ea13 fa13
            have hJ13 := kG_a3 hG 2 rfl ea13 fa13 (kd_bd _)
            refine ft_go mi_k104 9 82 [(0, .ref 0), (1, .int x1), (2, .int x2), (3, .int x3)] [.int x2, .ref 2, .int 999, .int x2, .ref 2] i a13 q r (by rfl) ?_
            refine ko_iald3 mi_k104.1 (n := 8) (c := 8) (ax := (0, 0, 0, 0, 0)) (mi_k104.2 _ _ (by rfl)) (by rfl) (ksG2 _ _ _ _) (hJ13.I.2.1 2) rfl (oz3 z4.1) (oz974 fi_64.2 z4.2) ?_
            have b14 : ((-2147483648 : Int) ≤ ((a13 2).getD x2.toNatClampNeg 0).toInt) ∧ (((a13 2).getD x2.toNatClampNeg 0).toInt ≤ 2147483647) := kd_bd ((a13 2).getD x2.toNatClampNeg 0)
            refine ft_go mi_k104 2 85 [(0, .ref 0), (1, .int x1), (2, .int x2), (3, .int x3)] [.int (((a13 2).getD x2.toNatClampNeg 0) + x3), .int 999, .int x2, .ref 2] i a13 q r (by rfl) ?_
            have m16 : (((bif decide ((((a13 2).getD x2.toNatClampNeg 0) + x3) < 999) then (((a13 2).getD x2.toNatClampNeg 0) + x3) else 999).toInt ≤ (999 : Int32).toInt) ∧ ((bif decide ((((a13 2).getD x2.toNatClampNeg 0) + x3) < 999) then (((a13 2).getD x2.toNatClampNeg 0) + x3) else 999).toInt ≤ (((a13 2).getD x2.toNatClampNeg 0) + x3).toInt)) ∧ ((bif decide ((((a13 2).getD x2.toNatClampNeg 0) + x3) < 999) then (((a13 2).getD x2.toNatClampNeg 0) + x3) else 999).toInt = (999 : Int32).toInt ∨ (bif decide ((((a13 2).getD x2.toNatClampNeg 0) + x3) < 999) then (((a13 2).getD x2.toNatClampNeg 0) + x3) else 999).toInt = (((a13 2).getD x2.toNatClampNeg 0) + x3).toInt) := kd_min
            refine ft_go mi_k104 1 88 [(0, .ref 0), (1, .int x1), (2, .int x2), (3, .int x3)] [.int (bif decide ((((a13 2).getD x2.toNatClampNeg 0) + x3) < 999) then (((a13 2).getD x2.toNatClampNeg 0) + x3) else 999), .int x2, .ref 2] i a13 q r (by rfl) ?_
            generalize (bif decide ((((a13 2).getD x2.toNatClampNeg 0) + x3) < 999) then (((a13 2).getD x2.toNatClampNeg 0) + x3) else 999) = m15 at m16 ⊢
            refine ko_iast3 mi_k104.1 (n := 8) (c := 8) (ax := (0, 0, 0, 0, 0)) (mi_k104.2 _ _ (by rfl)) (by rfl) (ksG2 _ _ _ _) (ksA2 _ _ _ _) (hJ13.I.2.1 2) rfl (oz3 z4.1) (oz974 fi_64.2 z4.2) ?_
            intro a17 ea17 fa17
            have hJ17 := kG_a3 hJ13 2 rfl ea17 fa17 (kd_bd _)
            refine ft_go mi_k104 5 98 [(0, .ref 0), (1, .int x1), (2, .int x2), (3, .int x3)] [.int 4, .ref 14, .int 4, .ref 14] i a17 q r (by rfl) ?_
            refine ko_iald3 mi_k104.1 (n := 5) (c := 5) (ax := (0, 0, 0, 0, 0)) (mi_k104.2 _ _ (by rfl)) (by rfl) (ksG14 _ _ _ _) (hJ17.I.2.1 14) rfl (oz262 kn4) (oz555 kn4) ?_
            have b18 : ((-2147483648 : Int) ≤ ((a17 14).getD (4 : Int32).toNatClampNeg 0).toInt) ∧ (((a17 14).getD (4 : Int32).toNatClampNeg 0).toInt ≤ 2147483647) := kd_bd ((a17 14).getD (4 : Int32).toNatClampNeg 0)
            refine ft_go mi_k104 2 101 [(0, .ref 0), (1, .int x1), (2, .int x2), (3, .int x3)] [.int (((a17 14).getD (4 : Int32).toNatClampNeg 0) + x3), .int 4, .ref 14] i a17 q r (by rfl) ?_
            refine ko_iast3 mi_k104.1 (n := 5) (c := 5) (ax := (0, 0, 0, 0, 0)) (mi_k104.2 _ _ (by rfl)) (by rfl) (ksG14 _ _ _ _) (ksA14 _ _ _ _) (hJ17.I.2.1 14) rfl (oz262 kn4) (oz555 kn4) ?_
            intro a19 ea19 fa19
            have hJ19 := kG_a3 hJ17 14 rfl ea19 fa19 (kd_bd _)
            refine ft_go mi_k104 4 110 [(0, .ref 0), (1, .int x1), (2, .int x2), (3, .int x3)] [.int x1, .ref 2] i a19 q r (by rfl) ?_
            refine ko_iald3 mi_k104.1 (n := 8) (c := 8) (ax := (0, 0, 0, 0, 0)) (mi_k104.2 _ _ (by rfl)) (by rfl) (ksG2 _ _ _ _) (hJ19.I.2.1 2) rfl (oz3 z2.1) (oz974 fi_64.2 z2.2) ?_
            exact ft_ret mi_k104 (by rfl) (hP ((a19 2).getD x1.toNatClampNeg 0) _ _ _ _ hJ19 trivial)
          ·
            have c20 : ((a 2).getD x1.toNatClampNeg 0).toInt < x3.toInt := kd_leF c; clear c
            refine ft_go mi_k104 1 49 [(0, .ref 0), (1, .int x1), (2, .int x2), (3, .int x3)] [.int (-5)] i a q r (by rfl) ?_
            exact ft_ret mi_k104 (by rfl) (hP (-5) _ _ _ _ hG trivial)
        ·
          subst eg7
          have z21 : ¬ (((1 : Int32).toInt ≤ x3.toInt) ∧ (x3.toInt ≤ (999 : Int32).toInt)) := hg7
          refine ft_go mi_k104 2 33 [(0, .ref 0), (1, .int x1), (2, .int x2), (3, .int x3)] [.int (-1)] i a q r (by rfl) ?_
          exact ft_ret mi_k104 (by rfl) (hP (-1) _ _ _ _ hG trivial)
    ·
      subst eg3
      have z22 : ¬ (((0 : Int) ≤ x2.toInt) ∧ (x2.toInt < (i 64).toInt)) := hg3
      refine ft_go mi_k104 2 33 [(0, .ref 0), (1, .int x1), (2, .int x2), (3, .int x3)] [.int (-1)] i a q r (by rfl) ?_
      exact ft_ret mi_k104 (by rfl) (hP (-1) _ _ _ _ hG trivial)
  ·
    subst eg1
    have fi_64 : ((0 : Int) ≤ (i 64).toInt) ∧ ((i 64).toInt ≤ 8) := hG.I.1 64
    have z23 : ¬ (((0 : Int) ≤ x1.toInt) ∧ (x1.toInt < (i 64).toInt)) := hg1
    refine ft_go mi_k104 2 33 [(0, .ref 0), (1, .int x1), (2, .int x2), (3, .int x3)] [.int (-1)] i a q r (by rfl) ?_
    exact ft_ret mi_k104 (by rfl) (hP (-1) _ _ _ _ hG trivial)
set_option maxRecDepth 100000 in
theorem kc105_0 {i : Nat → Int32} {a : Nat → List Int32} {q : Nat → List Int64} {r : Nat → Nat} (hI : kI i a q) (hr : kr r) (x1 : Int32) : km 3 105 [.ref 0, .int x1] (ks i a q r) (kPI (ks i a q r) (fun v => True)) := by
  have hG := kG_self kW0 hI hr
  refine km_ofPI (q := (mi_h105, mi_c105)) rfl (by decide) (Nat.le_of_ble_eq_true rfl) ?_
  intro P hP
  refine ft_go mi_k105 3 3 [(0, .ref 0), (1, .int x1)] [.int 4, .int 0, .int x1] i a q r (by rfl) ?_
  refine ko_callPI mi_k105.1 (pc := 3) (ls := [(0, .ref 0), (1, .int x1)]) (st := [.int 4, .int 0, .int x1]) (h := ks i a q r) (i := (.invokestatic 74, 3, 120, 0, 9, 0, 152)) (mi_k105.2 _ _ (by rfl)) (ft_invS mi_pq120 (by rfl)) (cy := mi_c120) mi_pq120 rfl (kc120 hG.I hG.R x1 0 4) (by decide) ?_
  intro vg1 hg1
  rcases hg1 with ⟨eg1, hg1⟩ | ⟨eg1, hg1⟩
  ·
    subst eg1
    have z2 : ((0 : Int32).toInt ≤ x1.toInt) ∧ (x1.toInt ≤ (4 : Int32).toInt) := hg1
    refine ft_go mi_k105 5 17 [(0, .ref 0), (1, .int x1)] [.int x1, .ref 14] i a q r (by rfl) ?_
    refine ko_iald3 mi_k105.1 (n := 5) (c := 5) (ax := (0, 0, 0, 0, 0)) (mi_k105.2 _ _ (by rfl)) (by rfl) (ksG14 _ _ _ _) (hG.I.2.1 14) rfl (oz389 z2.1 kn0) (oz557 z2.2 kn4) ?_
    refine ft_go mi_k105 1 22 [(0, .ref 0), (1, .int x1)] [.int ((a 14).getD x1.toNatClampNeg 0)] i a q r (by rfl) ?_
    exact ft_ret mi_k105 (by rfl) (hP ((a 14).getD x1.toNatClampNeg 0) trivial)
  ·
    subst eg1
    have z3 : ¬ (((0 : Int32).toInt ≤ x1.toInt) ∧ (x1.toInt ≤ (4 : Int32).toInt)) := hg1
    refine ft_go mi_k105 2 22 [(0, .ref 0), (1, .int x1)] [.int (-1)] i a q r (by rfl) ?_
    exact ft_ret mi_k105 (by rfl) (hP (-1) trivial)
def w3_31_7 : kW := ([1986], [32, 33], [], [])
set_option maxRecDepth 100000 in
theorem kc3_31_7 {i : Nat → Int32} {a : Nat → List Int32} {q : Nat → List Int64} {r : Nat → Nat} (hI : kI i a q) (hr : kr r)  : km 1 3 [.ref 31, .ref 7] (ks i a q r) (kVN w3_31_7 i a q r (fun i1 a1 q1 r1 => True)) := by
  have hG := kG_self w3_31_7 hI hr
  refine km_ofN (q := (mi_h3, mi_c3)) rfl (by decide) (Nat.le_of_ble_eq_true rfl) ?_
  intro P hP
  refine ft_go mi_k3 7 11 [(0, .ref 31), (1, .ref 7)] [.int 5, .int 0, .ref 32, .int 0, .ref 8] i a q r (by rfl) ?_
  refine ko_copyI3 mi_k3.1 (n := 5) (c := 5) (m := 5) (b := 5) (mi_k3.2 _ _ (by rfl)) (by rfl) (by rfl) (by rfl) (ksG8 _ _ _ _) (ksG32 _ _ _ _) (ksA32 _ _ _ _) (hG.I.2.1 8) rfl (hG.I.2.1 32) rfl (oz264 kn5) (oz46 kn0) (oz46 kn0) (oz1018 kn0 kn5) (oz1018 kn0 kn5) ?_
  intro a2 ea2 fa2
  have hJ2 := kG_al3 hG 32 rfl ea2 fa2 (kcpy_len2 (n := 5) (c := 5) (m := 5) (b := 5) (sp := 0) (dp := 0) (n1 := 5) (hG.I.2.1 8) rfl (hG.I.2.1 32) rfl (oz264 kn5) (oz46 kn0) (oz46 kn0) (oz1018 kn0 kn5) (oz1018 kn0 kn5)) (fun _ => kd_bd _)
  refine ft_go mi_k3 7 25 [(0, .ref 31), (1, .ref 7)] [.int 5, .int 0, .ref 33, .int 0, .ref 9] i a2 q r (by rfl) ?_
  refine ko_copyI3 mi_k3.1 (n := 5) (c := 5) (m := 5) (b := 5) (mi_k3.2 _ _ (by rfl)) (by rfl) (by rfl) (by rfl) (ksG9 _ _ _ _) (ksG33 _ _ _ _) (ksA33 _ _ _ _) (hJ2.I.2.1 9) rfl (hJ2.I.2.1 33) rfl (oz264 kn5) (oz46 kn0) (oz46 kn0) (oz1018 kn0 kn5) (oz1018 kn0 kn5) ?_
  intro a4 ea4 fa4
  have hJ4 := kG_al3 hJ2 33 rfl ea4 fa4 (kcpy_len2 (n := 5) (c := 5) (m := 5) (b := 5) (sp := 0) (dp := 0) (n1 := 5) (hJ2.I.2.1 9) rfl (hJ2.I.2.1 33) rfl (oz264 kn5) (oz46 kn0) (oz46 kn0) (oz1018 kn0 kn5) (oz1018 kn0 kn5)) (fun _ => kd_bd _)
  have fi_450 : ((0 : Int) ≤ (i 450).toInt) ∧ ((i 450).toInt ≤ 5) := hJ4.I.1 450
  have hJ5 := kG_i hJ4 1986 rfl (v := (i 450)) ⟨(oz3 fi_450.1), (oz527 fi_450.2)⟩
  refine ft_go mi_k3 4 36 [(0, .ref 31), (1, .ref 7)] [] (ku i 1986 (i 450)) a4 q r (by rfl) ?_
  exact ft_ret mi_k3 (by rfl) (hP  _ _ _ _ hJ5 trivial)
def w33_25_1 : kW := ([1608, 1609, 1986], [26, 30, 32, 33, 38], [], [])
set_option maxRecDepth 100000 in
theorem kc33_25_1 {i : Nat → Int32} {a : Nat → List Int32} {q : Nat → List Int64} {r : Nat → Nat} (hI : kI i a q) (hr : kr r) (x2 : Int32) : km 3 33 [.ref 25, .ref 1, .int x2] (ks i a q r) (kVN w33_25_1 i a q r (fun i1 a1 q1 r1 => True)) := by
  have hG := kG_self w33_25_1 hI hr
  refine km_ofN (q := (mi_h33, mi_c33)) rfl (by decide) (Nat.le_of_ble_eq_true rfl) ?_
  intro P hP
  refine ft_go mi_k33 3 4 [(0, .ref 25), (1, .ref 1), (2, .int x2)] [.int 8, .int x2, .int 0] i a q r (by rfl) ?_
  have m2 : (((bif decide (8 < x2) then 8 else x2).toInt ≤ x2.toInt) ∧ ((bif decide (8 < x2) then 8 else x2).toInt ≤ (8 : Int32).toInt)) ∧ ((bif decide (8 < x2) then 8 else x2).toInt = x2.toInt ∨ (bif decide (8 < x2) then 8 else x2).toInt = (8 : Int32).toInt) := kd_min
  refine ft_go mi_k33 1 7 [(0, .ref 25), (1, .ref 1), (2, .int x2)] [.int (bif decide (8 < x2) then 8 else x2), .int 0] i a q r (by rfl) ?_
  generalize (bif decide (8 < x2) then 8 else x2) = m1 at m2 ⊢
  have m4 : (((0 : Int32).toInt ≤ (bif decide (0 < m1) then m1 else 0).toInt) ∧ (m1.toInt ≤ (bif decide (0 < m1) then m1 else 0).toInt)) ∧ ((bif decide (0 < m1) then m1 else 0).toInt = (0 : Int32).toInt ∨ (bif decide (0 < m1) then m1 else 0).toInt = m1.toInt) := kd_max
  refine ft_go mi_k33 1 10 [(0, .ref 25), (1, .ref 1), (2, .int x2)] [.int (bif decide (0 < m1) then m1 else 0)] i a q r (by rfl) ?_
  generalize (bif decide (0 < m1) then m1 else 0) = m3 at m4 ⊢
  refine ft_go mi_k33 8 22 [(3, .int m3), (0, .ref 25), (1, .ref 1), (2, .int x2)] [.int m3, .int 0, .ref 26, .int 0, .ref 2] i a q r (by rfl) ?_
  refine ko_copyI3 mi_k33.1 (n := 8) (c := 8) (m := 8) (b := 8) (mi_k33.2 _ _ (by rfl)) (by rfl) (by rfl) (by rfl) (ksG2 _ _ _ _) (ksG26 _ _ _ _) (ksA26 _ _ _ _) (hG.I.2.1 2) rfl (hG.I.2.1 26) rfl (oz389 m4.1.1 kn0) (oz46 kn0) (oz46 kn0) (oz1017 m2.1.2 m4.2 kn8 kn0) (oz1017 m2.1.2 m4.2 kn8 kn0) ?_
  intro a6 ea6 fa6
  have hJ6 := kG_al3 hG 26 rfl ea6 fa6 (kcpy_len2 (n := 8) (c := 8) (m := 8) (b := 8) (sp := 0) (dp := 0) (n1 := m3) (hG.I.2.1 2) rfl (hG.I.2.1 26) rfl (oz389 m4.1.1 kn0) (oz46 kn0) (oz46 kn0) (oz1017 m2.1.2 m4.2 kn8 kn0) (oz1017 m2.1.2 m4.2 kn8 kn0)) (fun _ => kd_bd _)
  refine ft_go mi_k33 7 36 [(3, .int m3), (0, .ref 25), (1, .ref 1), (2, .int x2)] [.int m3, .int 0, .ref 30, .int 0, .ref 6] i a6 q r (by rfl) ?_
  refine ko_copyI3 mi_k33.1 (n := 8) (c := 8) (m := 8) (b := 8) (mi_k33.2 _ _ (by rfl)) (by rfl) (by rfl) (by rfl) (ksG6 _ _ _ _) (ksG30 _ _ _ _) (ksA30 _ _ _ _) (hJ6.I.2.1 6) rfl (hJ6.I.2.1 30) rfl (oz389 m4.1.1 kn0) (oz46 kn0) (oz46 kn0) (oz1017 m2.1.2 m4.2 kn8 kn0) (oz1017 m2.1.2 m4.2 kn8 kn0) ?_
  intro a8 ea8 fa8
  have hJ8 := kG_al3 hJ6 30 rfl ea8 fa8 (kcpy_len2 (n := 8) (c := 8) (m := 8) (b := 8) (sp := 0) (dp := 0) (n1 := m3) (hJ6.I.2.1 6) rfl (hJ6.I.2.1 30) rfl (oz389 m4.1.1 kn0) (oz46 kn0) (oz46 kn0) (oz1017 m2.1.2 m4.2 kn8 kn0) (oz1017 m2.1.2 m4.2 kn8 kn0)) (fun _ => kd_bd _)
  refine ft_go mi_k33 7 50 [(3, .int m3), (0, .ref 25), (1, .ref 1), (2, .int x2)] [.int 5, .int 0, .ref 38, .int 0, .ref 14] i a8 q r (by rfl) ?_
  refine ko_copyI3 mi_k33.1 (n := 5) (c := 5) (m := 5) (b := 5) (mi_k33.2 _ _ (by rfl)) (by rfl) (by rfl) (by rfl) (ksG14 _ _ _ _) (ksG38 _ _ _ _) (ksA38 _ _ _ _) (hJ8.I.2.1 14) rfl (hJ8.I.2.1 38) rfl (oz264 kn5) (oz46 kn0) (oz46 kn0) (oz1018 kn0 kn5) (oz1018 kn0 kn5) ?_
  intro a10 ea10 fa10
  have hJ10 := kG_al3 hJ8 38 rfl ea10 fa10 (kcpy_len2 (n := 5) (c := 5) (m := 5) (b := 5) (sp := 0) (dp := 0) (n1 := 5) (hJ8.I.2.1 14) rfl (hJ8.I.2.1 38) rfl (oz264 kn5) (oz46 kn0) (oz46 kn0) (oz1018 kn0 kn5) (oz1018 kn0 kn5)) (fun _ => kd_bd _)
  have hJ11 := kG_i hJ10 1608 rfl (v := (i 72)) (kd_bd _)
  have hJ12 := kG_i hJ11 1609 rfl (v := (i 73)) (kd_bd _)
  refine ft_go mi_k33 12 77 [(3, .int m3), (0, .ref 25), (1, .ref 1), (2, .int x2)] [.ref 7, .ref 31] (ku (ku i 1608 (i 72)) 1609 (i 73)) a10 q r (by rfl) ?_
  refine ko_callN mi_k33.1 (pc := 77) (ls := [(3, .int m3), (0, .ref 25), (1, .ref 1), (2, .int x2)]) (st := [.ref 7, .ref 31]) (h := ks (ku (ku i 1608 (i 72)) 1609 (i 73)) a10 q r) (i := (.invokevirtual 139, 3, 3, 0, 9, 0, 217)) (mi_k33.2 _ _ (by rfl)) (ft_invS mi_pq3 (by rfl)) (cy := mi_c3) mi_pq3 rfl (kc3_31_7 hJ12.I hJ12.R ) (by decide) ?_
  intro ig13 ag13 qg13 rg13 kg13 hg13
  have hGg13 := kG_call hJ12 kg13 (by decide +kernel)
  exact ft_ret mi_k33 (by rfl) (hP  _ _ _ _ hGg13 trivial)
def w106_0 : kW := ([2, 1600, 1608, 1609, 1986], [26, 30, 32, 33, 38], [], [])
set_option maxRecDepth 100000 in
theorem kc106_0 {i : Nat → Int32} {a : Nat → List Int32} {q : Nat → List Int64} {r : Nat → Nat} (hI : kI i a q) (hr : kr r)  : km 5 106 [.ref 0] (ks i a q r) (kVI w106_0 i a q r (fun v i1 a1 q1 r1 => True)) := by
  have hG := kG_self w106_0 hI hr
  refine km_ofI (q := (mi_h106, mi_c106)) rfl (by decide) (Nat.le_of_ble_eq_true rfl) ?_
  intro P hP
  have fi_64 : ((0 : Int) ≤ (i 64).toInt) ∧ ((i 64).toInt ≤ 8) := hG.I.1 64
  have hJ1 := kG_i hG 1600 rfl (v := (i 64)) ⟨(oz3 fi_64.1), (oz559 fi_64.2)⟩
  refine ft_go mi_k106 13 29 [(0, .ref 0)] [.int (i 64), .ref 1, .ref 25] (ku i 1600 (i 64)) a q r (by rfl) ?_
  refine ko_callN mi_k106.1 (pc := 29) (ls := [(0, .ref 0)]) (st := [.int (i 64), .ref 1, .ref 25]) (h := ks (ku i 1600 (i 64)) a q r) (i := (.invokevirtual 270, 3, 33, 0, 9, 0, 288)) (mi_k106.2 _ _ (by rfl)) (ft_invS mi_pq33 (by rfl)) (cy := mi_c33) mi_pq33 rfl (kc33_25_1 hJ1.I hJ1.R (i 64)) (by decide) ?_
  intro ig2 ag2 qg2 rg2 kg2 hg2
  have hGg2 := kG_call hJ1 kg2 (by decide +kernel)
  have hJ3 := kG_i hGg2 2 rfl (v := 1) ⟨(oz246 kn1), (oz558 kn1)⟩
  refine ft_go mi_k106 7 45 [(0, .ref 0)] [.int 0, .ref 14] (ku ig2 2 1) ag2 qg2 rg2 (by rfl) ?_
  refine ko_iald3 mi_k106.1 (n := 5) (c := 5) (ax := (0, 0, 0, 0, 0)) (mi_k106.2 _ _ (by rfl)) (by rfl) (ksG14 _ _ _ _) (hJ3.I.2.1 14) rfl (oz46 kn0) (oz547 kn0) ?_
  exact ft_ret mi_k106 (by rfl) (hP ((ag2 14).getD (0 : Int32).toNatClampNeg 0) _ _ _ _ hJ3 trivial)
def w3_7_31 : kW := ([450], [8, 9], [], [])
set_option maxRecDepth 100000 in
theorem kc3_7_31 {i : Nat → Int32} {a : Nat → List Int32} {q : Nat → List Int64} {r : Nat → Nat} (hI : kI i a q) (hr : kr r)  : km 1 3 [.ref 7, .ref 31] (ks i a q r) (kVN w3_7_31 i a q r (fun i1 a1 q1 r1 => True)) := by
  have hG := kG_self w3_7_31 hI hr
  refine km_ofN (q := (mi_h3, mi_c3)) rfl (by decide) (Nat.le_of_ble_eq_true rfl) ?_
  intro P hP
  refine ft_go mi_k3 7 11 [(0, .ref 7), (1, .ref 31)] [.int 5, .int 0, .ref 8, .int 0, .ref 32] i a q r (by rfl) ?_
  refine ko_copyI3 mi_k3.1 (n := 5) (c := 5) (m := 5) (b := 5) (mi_k3.2 _ _ (by rfl)) (by rfl) (by rfl) (by rfl) (ksG32 _ _ _ _) (ksG8 _ _ _ _) (ksA8 _ _ _ _) (hG.I.2.1 32) rfl (hG.I.2.1 8) rfl (oz264 kn5) (oz46 kn0) (oz46 kn0) (oz1018 kn0 kn5) (oz1018 kn0 kn5) ?_
  intro a2 ea2 fa2
  have hJ2 := kG_al3 hG 8 rfl ea2 fa2 (kcpy_len2 (n := 5) (c := 5) (m := 5) (b := 5) (sp := 0) (dp := 0) (n1 := 5) (hG.I.2.1 32) rfl (hG.I.2.1 8) rfl (oz264 kn5) (oz46 kn0) (oz46 kn0) (oz1018 kn0 kn5) (oz1018 kn0 kn5)) (fun _ => kd_bd _)
  refine ft_go mi_k3 7 25 [(0, .ref 7), (1, .ref 31)] [.int 5, .int 0, .ref 9, .int 0, .ref 33] i a2 q r (by rfl) ?_
  refine ko_copyI3 mi_k3.1 (n := 5) (c := 5) (m := 5) (b := 5) (mi_k3.2 _ _ (by rfl)) (by rfl) (by rfl) (by rfl) (ksG33 _ _ _ _) (ksG9 _ _ _ _) (ksA9 _ _ _ _) (hJ2.I.2.1 33) rfl (hJ2.I.2.1 9) rfl (oz264 kn5) (oz46 kn0) (oz46 kn0) (oz1018 kn0 kn5) (oz1018 kn0 kn5) ?_
  intro a4 ea4 fa4
  have hJ4 := kG_al3 hJ2 9 rfl ea4 fa4 (kcpy_len2 (n := 5) (c := 5) (m := 5) (b := 5) (sp := 0) (dp := 0) (n1 := 5) (hJ2.I.2.1 33) rfl (hJ2.I.2.1 9) rfl (oz264 kn5) (oz46 kn0) (oz46 kn0) (oz1018 kn0 kn5) (oz1018 kn0 kn5)) (fun _ => kd_bd _)
  have fi_1986 : ((0 : Int) ≤ (i 1986).toInt) ∧ ((i 1986).toInt ≤ 5) := hJ4.I.1 1986
  have hJ5 := kG_i hJ4 450 rfl (v := (i 1986)) ⟨(oz3 fi_1986.1), (oz527 fi_1986.2)⟩
  refine ft_go mi_k3 4 36 [(0, .ref 7), (1, .ref 31)] [] (ku i 450 (i 1986)) a4 q r (by rfl) ?_
  exact ft_ret mi_k3 (by rfl) (hP  _ _ _ _ hJ5 trivial)
def w33_1_25 : kW := ([72, 73, 450], [2, 6, 8, 9, 14], [], [])
set_option maxRecDepth 100000 in
theorem kc33_1_25 {i : Nat → Int32} {a : Nat → List Int32} {q : Nat → List Int64} {r : Nat → Nat} (hI : kI i a q) (hr : kr r) (x2 : Int32) : km 3 33 [.ref 1, .ref 25, .int x2] (ks i a q r) (kVN w33_1_25 i a q r (fun i1 a1 q1 r1 => True)) := by
  have hG := kG_self w33_1_25 hI hr
  refine km_ofN (q := (mi_h33, mi_c33)) rfl (by decide) (Nat.le_of_ble_eq_true rfl) ?_
  intro P hP
  refine ft_go mi_k33 3 4 [(0, .ref 1), (1, .ref 25), (2, .int x2)] [.int 8, .int x2, .int 0] i a q r (by rfl) ?_
  have m2 : (((bif decide (8 < x2) then 8 else x2).toInt ≤ x2.toInt) ∧ ((bif decide (8 < x2) then 8 else x2).toInt ≤ (8 : Int32).toInt)) ∧ ((bif decide (8 < x2) then 8 else x2).toInt = x2.toInt ∨ (bif decide (8 < x2) then 8 else x2).toInt = (8 : Int32).toInt) := kd_min
  refine ft_go mi_k33 1 7 [(0, .ref 1), (1, .ref 25), (2, .int x2)] [.int (bif decide (8 < x2) then 8 else x2), .int 0] i a q r (by rfl) ?_
  generalize (bif decide (8 < x2) then 8 else x2) = m1 at m2 ⊢
  have m4 : (((0 : Int32).toInt ≤ (bif decide (0 < m1) then m1 else 0).toInt) ∧ (m1.toInt ≤ (bif decide (0 < m1) then m1 else 0).toInt)) ∧ ((bif decide (0 < m1) then m1 else 0).toInt = (0 : Int32).toInt ∨ (bif decide (0 < m1) then m1 else 0).toInt = m1.toInt) := kd_max
  refine ft_go mi_k33 1 10 [(0, .ref 1), (1, .ref 25), (2, .int x2)] [.int (bif decide (0 < m1) then m1 else 0)] i a q r (by rfl) ?_
  generalize (bif decide (0 < m1) then m1 else 0) = m3 at m4 ⊢
  refine ft_go mi_k33 8 22 [(3, .int m3), (0, .ref 1), (1, .ref 25), (2, .int x2)] [.int m3, .int 0, .ref 2, .int 0, .ref 26] i a q r (by rfl) ?_
  refine ko_copyI3 mi_k33.1 (n := 8) (c := 8) (m := 8) (b := 8) (mi_k33.2 _ _ (by rfl)) (by rfl) (by rfl) (by rfl) (ksG26 _ _ _ _) (ksG2 _ _ _ _) (ksA2 _ _ _ _) (hG.I.2.1 26) rfl (hG.I.2.1 2) rfl (oz389 m4.1.1 kn0) (oz46 kn0) (oz46 kn0) (oz1017 m2.1.2 m4.2 kn8 kn0) (oz1017 m2.1.2 m4.2 kn8 kn0) ?_
  intro a6 ea6 fa6
  have hJ6 := kG_al3 hG 2 rfl ea6 fa6 (kcpy_len2 (n := 8) (c := 8) (m := 8) (b := 8) (sp := 0) (dp := 0) (n1 := m3) (hG.I.2.1 26) rfl (hG.I.2.1 2) rfl (oz389 m4.1.1 kn0) (oz46 kn0) (oz46 kn0) (oz1017 m2.1.2 m4.2 kn8 kn0) (oz1017 m2.1.2 m4.2 kn8 kn0)) (fun _ => kd_bd _)
  refine ft_go mi_k33 7 36 [(3, .int m3), (0, .ref 1), (1, .ref 25), (2, .int x2)] [.int m3, .int 0, .ref 6, .int 0, .ref 30] i a6 q r (by rfl) ?_
  refine ko_copyI3 mi_k33.1 (n := 8) (c := 8) (m := 8) (b := 8) (mi_k33.2 _ _ (by rfl)) (by rfl) (by rfl) (by rfl) (ksG30 _ _ _ _) (ksG6 _ _ _ _) (ksA6 _ _ _ _) (hJ6.I.2.1 30) rfl (hJ6.I.2.1 6) rfl (oz389 m4.1.1 kn0) (oz46 kn0) (oz46 kn0) (oz1017 m2.1.2 m4.2 kn8 kn0) (oz1017 m2.1.2 m4.2 kn8 kn0) ?_
  intro a8 ea8 fa8
  have hJ8 := kG_al3 hJ6 6 rfl ea8 fa8 (kcpy_len2 (n := 8) (c := 8) (m := 8) (b := 8) (sp := 0) (dp := 0) (n1 := m3) (hJ6.I.2.1 30) rfl (hJ6.I.2.1 6) rfl (oz389 m4.1.1 kn0) (oz46 kn0) (oz46 kn0) (oz1017 m2.1.2 m4.2 kn8 kn0) (oz1017 m2.1.2 m4.2 kn8 kn0)) (fun _ => kd_bd _)
  refine ft_go mi_k33 7 50 [(3, .int m3), (0, .ref 1), (1, .ref 25), (2, .int x2)] [.int 5, .int 0, .ref 14, .int 0, .ref 38] i a8 q r (by rfl) ?_
  refine ko_copyI3 mi_k33.1 (n := 5) (c := 5) (m := 5) (b := 5) (mi_k33.2 _ _ (by rfl)) (by rfl) (by rfl) (by rfl) (ksG38 _ _ _ _) (ksG14 _ _ _ _) (ksA14 _ _ _ _) (hJ8.I.2.1 38) rfl (hJ8.I.2.1 14) rfl (oz264 kn5) (oz46 kn0) (oz46 kn0) (oz1018 kn0 kn5) (oz1018 kn0 kn5) ?_
  intro a10 ea10 fa10
  have hJ10 := kG_al3 hJ8 14 rfl ea10 fa10 (kcpy_len2 (n := 5) (c := 5) (m := 5) (b := 5) (sp := 0) (dp := 0) (n1 := 5) (hJ8.I.2.1 38) rfl (hJ8.I.2.1 14) rfl (oz264 kn5) (oz46 kn0) (oz46 kn0) (oz1018 kn0 kn5) (oz1018 kn0 kn5)) (fun _ => kd_bd _)
  have hJ11 := kG_i hJ10 72 rfl (v := (i 1608)) (kd_bd _)
  have hJ12 := kG_i hJ11 73 rfl (v := (i 1609)) (kd_bd _)
  refine ft_go mi_k33 12 77 [(3, .int m3), (0, .ref 1), (1, .ref 25), (2, .int x2)] [.ref 31, .ref 7] (ku (ku i 72 (i 1608)) 73 (i 1609)) a10 q r (by rfl) ?_
  refine ko_callN mi_k33.1 (pc := 77) (ls := [(3, .int m3), (0, .ref 1), (1, .ref 25), (2, .int x2)]) (st := [.ref 31, .ref 7]) (h := ks (ku (ku i 72 (i 1608)) 73 (i 1609)) a10 q r) (i := (.invokevirtual 139, 3, 3, 0, 9, 0, 217)) (mi_k33.2 _ _ (by rfl)) (ft_invS mi_pq3 (by rfl)) (cy := mi_c3) mi_pq3 rfl (kc3_7_31 hJ12.I hJ12.R ) (by decide) ?_
  intro ig13 ag13 qg13 rg13 kg13 hg13
  have hGg13 := kG_call hJ12 kg13 (by decide +kernel)
  exact ft_ret mi_k33 (by rfl) (hP  _ _ _ _ hGg13 trivial)
def w107_0 : kW := ([72, 73, 450], [2, 6, 8, 9, 14], [], [])
set_option maxRecDepth 100000 in
theorem kc107_0 {i : Nat → Int32} {a : Nat → List Int32} {q : Nat → List Int64} {r : Nat → Nat} (hI : kI i a q) (hr : kr r)  : km 5 107 [.ref 0] (ks i a q r) (kVI w107_0 i a q r (fun v i1 a1 q1 r1 => True)) := by
  have hG := kG_self w107_0 hI hr
  refine km_ofI (q := (mi_h107, mi_c107)) rfl (by decide) (Nat.le_of_ble_eq_true rfl) ?_
  intro P hP
  have fi_2 : ((0 : Int) ≤ (i 2).toInt) ∧ ((i 2).toInt ≤ 1) := hG.I.1 2
  refine ft_go mi_k107 2 4 [(0, .ref 0)] [.int (i 2)] i a q r (by rfl) ?_
  refine ft_if mi_k107 ((i 2) != 0) 10 7 [(0, .ref 0)] [] (by rfl) (fun c => ?_) (fun c => ?_)
  ·
    have c1 : (i 2).toInt ≠ (0 : Int32).toInt := kd_ne c; clear c
    have fi_1600 : ((0 : Int) ≤ (i 1600).toInt) ∧ ((i 1600).toInt ≤ 8) := hG.I.1 1600
    refine ft_go mi_k107 7 25 [(0, .ref 0)] [.int (i 1600), .ref 25, .ref 1] i a q r (by rfl) ?_
    refine ko_callN mi_k107.1 (pc := 25) (ls := [(0, .ref 0)]) (st := [.int (i 1600), .ref 25, .ref 1]) (h := ks i a q r) (i := (.invokevirtual 270, 3, 33, 0, 9, 0, 288)) (mi_k107.2 _ _ (by rfl)) (ft_invS mi_pq33 (by rfl)) (cy := mi_c33) mi_pq33 rfl (kc33_1_25 hG.I hG.R (i 1600)) (by decide) ?_
    intro ig2 ag2 qg2 rg2 kg2 hg2
    have hGg2 := kG_call hG kg2 (by decide +kernel)
    refine ft_go mi_k107 4 36 [(0, .ref 0)] [.int 0, .ref 14] ig2 ag2 qg2 rg2 (by rfl) ?_
    refine ko_iald3 mi_k107.1 (n := 5) (c := 5) (ax := (0, 0, 0, 0, 0)) (mi_k107.2 _ _ (by rfl)) (by rfl) (ksG14 _ _ _ _) (hGg2.I.2.1 14) rfl (oz46 kn0) (oz547 kn0) ?_
    exact ft_ret mi_k107 (by rfl) (hP ((ag2 14).getD (0 : Int32).toNatClampNeg 0) _ _ _ _ hGg2 trivial)
  ·
    have c3 : (i 2).toInt = (0 : Int32).toInt := kd_neF c; clear c
    refine ft_go mi_k107 1 9 [(0, .ref 0)] [.int (-5)] i a q r (by rfl) ?_
    exact ft_ret mi_k107 (by rfl) (hP (-5) _ _ _ _ hG trivial)
def w108_0 : kW := ([70, 71, 72, 5701], [2, 3, 4, 5], [], [])
set_option maxRecDepth 100000 in
theorem kc108_0 {i : Nat → Int32} {a : Nat → List Int32} {q : Nat → List Int64} {r : Nat → Nat} (hI : kI i a q) (hr : kr r)  : km 5 108 [.ref 0] (ks i a q r) (kVI w108_0 i a q r (fun v i1 a1 q1 r1 => True)) := by
  have hG := kG_self w108_0 hI hr
  refine km_ofI (q := (mi_h108, mi_c108)) rfl (by decide) (Nat.le_of_ble_eq_true rfl) ?_
  intro P hP
  have fi_5701 : ((0 : Int) ≤ (i 5701).toInt) ∧ ((i 5701).toInt ≤ 40) := hG.I.1 5701
  refine ft_go mi_k108 3 7 [(0, .ref 0)] [.int (i 5701)] i a q r (by rfl) ?_
  refine ft_if mi_k108 (decide (0 < (i 5701))) 13 10 [(0, .ref 0)] [] (by rfl) (fun c => ?_) (fun c => ?_)
  ·
    have c1 : (0 : Int32).toInt < (i 5701).toInt := kd_lt c; clear c
    have s2 : ((i 5701) - 1).toInt = (i 5701).toInt - (1 : Int32).toInt := kd_sub (oz1040 c1 kn0 kn1) (oz130 fi_5701.2 kn1)
    have hJ3 := kG_i hG 5701 rfl (v := ((i 5701) - 1)) ⟨(oz1041 c1 s2 kn0 kn1), (oz132 fi_5701.2 s2 kn1)⟩
    refine ft_go mi_k108 17 46 [(1, .int ((i 5701) - 1)), (0, .ref 0)] [.int ((i 5701) - 1), .ref 90, .ref 1] (ku i 5701 ((i 5701) - 1)) a q r (by rfl) ?_
    refine ko_iald3 mi_k108.1 (n := 40) (c := 40) (ax := (0, 0, 0, 0, 0)) (mi_k108.2 _ _ (by rfl)) (by rfl) (ksG90 _ _ _ _) (hJ3.I.2.1 90) rfl (oz1041 c1 s2 kn0 kn1) (oz1233 fi_5701.2 s2 kn1) ?_
    refine ft_go mi_k108 4 55 [(1, .int ((i 5701) - 1)), (0, .ref 0)] [.int ((i 5701) - 1), .ref 91, .int ((a 90).getD ((i 5701) - 1).toNatClampNeg 0), .ref 1] (ku i 5701 ((i 5701) - 1)) a q r (by rfl) ?_
    refine ko_iald3 mi_k108.1 (n := 40) (c := 40) (ax := (0, 0, 0, 0, 0)) (mi_k108.2 _ _ (by rfl)) (by rfl) (ksG91 _ _ _ _) (hJ3.I.2.1 91) rfl (oz1041 c1 s2 kn0 kn1) (oz1233 fi_5701.2 s2 kn1) ?_
    refine ft_go mi_k108 4 64 [(1, .int ((i 5701) - 1)), (0, .ref 0)] [.int ((i 5701) - 1), .ref 92, .int ((a 91).getD ((i 5701) - 1).toNatClampNeg 0), .int ((a 90).getD ((i 5701) - 1).toNatClampNeg 0), .ref 1] (ku i 5701 ((i 5701) - 1)) a q r (by rfl) ?_
    refine ko_iald3 mi_k108.1 (n := 40) (c := 40) (ax := (0, 0, 0, 0, 0)) (mi_k108.2 _ _ (by rfl)) (by rfl) (ksG92 _ _ _ _) (hJ3.I.2.1 92) rfl (oz1041 c1 s2 kn0 kn1) (oz1233 fi_5701.2 s2 kn1) ?_
    refine ko_callN mi_k108.1 (pc := 65) (ls := [(1, .int ((i 5701) - 1)), (0, .ref 0)]) (st := [.int ((a 92).getD ((i 5701) - 1).toNatClampNeg 0), .int ((a 91).getD ((i 5701) - 1).toNatClampNeg 0), .int ((a 90).getD ((i 5701) - 1).toNatClampNeg 0), .ref 1]) (h := ks (ku i 5701 ((i 5701) - 1)) a q r) (i := (.invokevirtual 102, 3, 28, 0, 9, 0, 167)) (mi_k108.2 _ _ (by rfl)) (ft_invS mi_pq28 (by rfl)) (cy := mi_c28) mi_pq28 rfl (kc28_1 hJ3.I hJ3.R ((a 90).getD ((i 5701) - 1).toNatClampNeg 0) ((a 91).getD ((i 5701) - 1).toNatClampNeg 0) ((a 92).getD ((i 5701) - 1).toNatClampNeg 0)) (by decide) ?_
    intro ig4 ag4 qg4 rg4 kg4 hg4
    have hGg4 := kG_call hJ3 kg4 (by decide +kernel)
    have fig4_5701 : ((0 : Int) ≤ (ig4 5701).toInt) ∧ ((ig4 5701).toInt ≤ 40) := hGg4.I.1 5701
    have efig4_5701 : (ig4 5701).toInt = ((i 5701) - 1).toInt := kg4.ti 5701 rfl
    refine ft_go mi_k108 3 75 [(1, .int ((i 5701) - 1)), (0, .ref 0)] [.int (ig4 5701)] ig4 ag4 qg4 rg4 (by rfl) ?_
    exact ft_ret mi_k108 (by rfl) (hP (ig4 5701) _ _ _ _ hGg4 trivial)
  ·
    have c5 : (i 5701).toInt ≤ (0 : Int32).toInt := kd_ltF c; clear c
    refine ft_go mi_k108 1 12 [(0, .ref 0)] [.int (-5)] i a q r (by rfl) ?_
    exact ft_ret mi_k108 (by rfl) (hP (-5) _ _ _ _ hG trivial)
def w109_0 : kW := ([70, 71, 72, 5701], [2, 3, 4, 5], [], [])
set_option maxRecDepth 100000 in
theorem kc109_0 {i : Nat → Int32} {a : Nat → List Int32} {q : Nat → List Int64} {r : Nat → Nat} (hI : kI i a q) (hr : kr r)  : km 5 109 [.ref 0] (ks i a q r) (kVI w109_0 i a q r (fun v i1 a1 q1 r1 => True)) := by
  have hG := kG_self w109_0 hI hr
  refine km_ofI (q := (mi_h109, mi_c109)) rfl (by decide) (Nat.le_of_ble_eq_true rfl) ?_
  intro P hP
  have fi_5701 : ((0 : Int) ≤ (i 5701).toInt) ∧ ((i 5701).toInt ≤ 40) := hG.I.1 5701
  have fi_5700 : ((0 : Int) ≤ (i 5700).toInt) ∧ ((i 5700).toInt ≤ 40) := hG.I.1 5700
  refine ft_go mi_k109 6 14 [(0, .ref 0)] [.int (i 5700), .int (i 5701)] i a q r (by rfl) ?_
  refine ft_if mi_k109 (decide ((i 5701) < (i 5700))) 20 17 [(0, .ref 0)] [] (by rfl) (fun c => ?_) (fun c => ?_)
  ·
    have c1 : (i 5701).toInt < (i 5700).toInt := kd_lt c; clear c
    refine ft_go mi_k109 10 40 [(1, .int (i 5701)), (0, .ref 0)] [.int (i 5701), .ref 90, .ref 1] i a q r (by rfl) ?_
    refine ko_iald3 mi_k109.1 (n := 40) (c := 40) (ax := (0, 0, 0, 0, 0)) (mi_k109.2 _ _ (by rfl)) (by rfl) (ksG90 _ _ _ _) (hG.I.2.1 90) rfl (oz3 fi_5701.1) (oz1234 c1 fi_5700.2) ?_
    refine ft_go mi_k109 4 49 [(1, .int (i 5701)), (0, .ref 0)] [.int (i 5701), .ref 91, .int ((a 90).getD (i 5701).toNatClampNeg 0), .ref 1] i a q r (by rfl) ?_
    refine ko_iald3 mi_k109.1 (n := 40) (c := 40) (ax := (0, 0, 0, 0, 0)) (mi_k109.2 _ _ (by rfl)) (by rfl) (ksG91 _ _ _ _) (hG.I.2.1 91) rfl (oz3 fi_5701.1) (oz1234 c1 fi_5700.2) ?_
    refine ft_go mi_k109 4 58 [(1, .int (i 5701)), (0, .ref 0)] [.int (i 5701), .ref 93, .int ((a 91).getD (i 5701).toNatClampNeg 0), .int ((a 90).getD (i 5701).toNatClampNeg 0), .ref 1] i a q r (by rfl) ?_
    refine ko_iald3 mi_k109.1 (n := 40) (c := 40) (ax := (0, 0, 0, 0, 0)) (mi_k109.2 _ _ (by rfl)) (by rfl) (ksG93 _ _ _ _) (hG.I.2.1 93) rfl (oz3 fi_5701.1) (oz1234 c1 fi_5700.2) ?_
    refine ko_callN mi_k109.1 (pc := 59) (ls := [(1, .int (i 5701)), (0, .ref 0)]) (st := [.int ((a 93).getD (i 5701).toNatClampNeg 0), .int ((a 91).getD (i 5701).toNatClampNeg 0), .int ((a 90).getD (i 5701).toNatClampNeg 0), .ref 1]) (h := ks i a q r) (i := (.invokevirtual 102, 3, 28, 0, 9, 0, 167)) (mi_k109.2 _ _ (by rfl)) (ft_invS mi_pq28 (by rfl)) (cy := mi_c28) mi_pq28 rfl (kc28_1 hG.I hG.R ((a 90).getD (i 5701).toNatClampNeg 0) ((a 91).getD (i 5701).toNatClampNeg 0) ((a 93).getD (i 5701).toNatClampNeg 0)) (by decide) ?_
    intro ig2 ag2 qg2 rg2 kg2 hg2
    have hGg2 := kG_call hG kg2 (by decide +kernel)
    have fig2_5701 : ((0 : Int) ≤ (ig2 5701).toInt) ∧ ((ig2 5701).toInt ≤ 40) := hGg2.I.1 5701
    have efig2_5701 : (ig2 5701).toInt = (i 5701).toInt := kg2.ti 5701 rfl
    have s3 : ((ig2 5701) + 1).toInt = (ig2 5701).toInt + (1 : Int32).toInt := kd_add (oz12 fig2_5701.1 kn1) (oz120 fig2_5701.2 kn1)
    have hJ4 := kG_i hGg2 5701 rfl (v := ((ig2 5701) + 1)) ⟨(oz14 fig2_5701.1 s3 kn1), (oz1235 c1 efig2_5701 fi_5700.2 s3 kn1)⟩
    have fig2_5700 : ((0 : Int) ≤ (ig2 5700).toInt) ∧ ((ig2 5700).toInt ≤ 40) := hJ4.I.1 5700
    have efig2_5700 : (ig2 5700).toInt = (i 5700).toInt := kg2.ti 5700 rfl
    have s5 : ((ig2 5700) - ((ig2 5701) + 1)).toInt = (ig2 5700).toInt - ((ig2 5701) + 1).toInt := kd_sub (oz189 fig2_5700.1 fig2_5701.2 s3 kn1) (oz190 fig2_5700.2 fig2_5701.1 s3 kn1)
    refine ft_go mi_k109 14 90 [(1, .int (i 5701)), (0, .ref 0)] [.int ((ig2 5700) - ((ig2 5701) + 1))] (ku ig2 5701 ((ig2 5701) + 1)) ag2 qg2 rg2 (by rfl) ?_
    exact ft_ret mi_k109 (by rfl) (hP ((ig2 5700) - ((ig2 5701) + 1)) _ _ _ _ hJ4 trivial)
  ·
    have c6 : (i 5700).toInt ≤ (i 5701).toInt := kd_ltF c; clear c
    refine ft_go mi_k109 1 19 [(0, .ref 0)] [.int (-5)] i a q r (by rfl) ?_
    exact ft_ret mi_k109 (by rfl) (hP (-5) _ _ _ _ hG trivial)
set_option maxRecDepth 100000 in
theorem kc112_0 {i : Nat → Int32} {a : Nat → List Int32} {q : Nat → List Int64} {r : Nat → Nat} (hI : kI i a q) (hr : kr r) (x1 : Int32) : km 3 112 [.ref 0, .int x1] (ks i a q r) (kPI (ks i a q r) (fun v => True)) := by
  have hG := kG_self kW0 hI hr
  refine km_ofPI (q := (mi_h112, mi_c112)) rfl (by decide) (Nat.le_of_ble_eq_true rfl) ?_
  intro P hP
  have fi_6019 : ((0 : Int) ≤ (i 6019).toInt) ∧ ((i 6019).toInt ≤ 1000) := hG.I.1 6019
  refine ft_go mi_k112 6 11 [(0, .ref 0), (1, .int x1)] [.int 24, .int (i 6019), .int 0, .int x1] i a q r (by rfl) ?_
  have m2 : (((bif decide (24 < (i 6019)) then 24 else (i 6019)).toInt ≤ (i 6019).toInt) ∧ ((bif decide (24 < (i 6019)) then 24 else (i 6019)).toInt ≤ (24 : Int32).toInt)) ∧ ((bif decide (24 < (i 6019)) then 24 else (i 6019)).toInt = (i 6019).toInt ∨ (bif decide (24 < (i 6019)) then 24 else (i 6019)).toInt = (24 : Int32).toInt) := kd_min
  refine ft_go mi_k112 1 14 [(0, .ref 0), (1, .int x1)] [.int (bif decide (24 < (i 6019)) then 24 else (i 6019)), .int 0, .int x1] i a q r (by rfl) ?_
  generalize (bif decide (24 < (i 6019)) then 24 else (i 6019)) = m1 at m2 ⊢
  have s3 : (m1 - 1).toInt = m1.toInt - (1 : Int32).toInt := kd_sub (oz1240 fi_6019.1 m2.2 kn24 kn1) (oz581 m2.1.2 kn24 kn1)
  refine ft_go mi_k112 2 16 [(0, .ref 0), (1, .int x1)] [.int (m1 - 1), .int 0, .int x1] i a q r (by rfl) ?_
  refine ko_callPI mi_k112.1 (pc := 16) (ls := [(0, .ref 0), (1, .int x1)]) (st := [.int (m1 - 1), .int 0, .int x1]) (h := ks i a q r) (i := (.invokestatic 74, 3, 120, 0, 9, 0, 152)) (mi_k112.2 _ _ (by rfl)) (ft_invS mi_pq120 (by rfl)) (cy := mi_c120) mi_pq120 rfl (kc120 hG.I hG.R x1 0 (m1 - 1)) (by decide) ?_
  intro vg4 hg4
  rcases hg4 with ⟨eg4, hg4⟩ | ⟨eg4, hg4⟩
  ·
    subst eg4
    have z5 : ((0 : Int32).toInt ≤ x1.toInt) ∧ (x1.toInt ≤ (m1 - 1).toInt) := hg4
    refine ft_go mi_k112 5 30 [(0, .ref 0), (1, .int x1)] [.int x1, .ref 96] i a q r (by rfl) ?_
    refine ko_iald3 mi_k112.1 (n := 24) (c := 24) (ax := (0, 0, 0, 0, 0)) (mi_k112.2 _ _ (by rfl)) (by rfl) (ksG96 _ _ _ _) (hG.I.2.1 96) rfl (oz389 z5.1 kn0) (oz582 m2.1.2 s3 z5.2 kn24 kn1) ?_
    refine ft_go mi_k112 1 35 [(0, .ref 0), (1, .int x1)] [.int ((a 96).getD x1.toNatClampNeg 0)] i a q r (by rfl) ?_
    exact ft_ret mi_k112 (by rfl) (hP ((a 96).getD x1.toNatClampNeg 0) trivial)
  ·
    subst eg4
    have z6 : ¬ (((0 : Int32).toInt ≤ x1.toInt) ∧ (x1.toInt ≤ (m1 - 1).toInt)) := hg4
    refine ft_go mi_k112 2 35 [(0, .ref 0), (1, .int x1)] [.int (-1)] i a q r (by rfl) ?_
    exact ft_ret mi_k112 (by rfl) (hP (-1) trivial)
set_option maxRecDepth 100000 in
theorem kc8_94 {i : Nat → Int32} {a : Nat → List Int32} {q : Nat → List Int64} {r : Nat → Nat} (hI : kI i a q) (hr : kr r) (x1 : Int32) : km 1 8 [.ref 94, .int x1] (ks i a q r) (kPI (ks i a q r) (fun v => (v = 1 ∧ (((0 : Int) ≤ x1.toInt) ∧ (x1.toInt < (i 6017).toInt))) ∨ (v = 0 ∧ (¬ (((0 : Int) ≤ x1.toInt) ∧ (x1.toInt < (i 6017).toInt)))))) := by
  have hG := kG_self kW0 hI hr
  refine km_ofPI (q := (mi_h8, mi_c8)) rfl (by decide) (Nat.le_of_ble_eq_true rfl) ?_
  intro P hP
  refine ft_go mi_k8 1 1 [(0, .ref 94), (1, .int x1)] [.int x1] i a q r (by rfl) ?_
  refine ft_if mi_k8 (decide (x1 < 0)) 22 4 [(0, .ref 94), (1, .int x1)] [] (by rfl) (fun c => ?_) (fun c => ?_)
  ·
    have c1 : x1.toInt < (0 : Int32).toInt := kd_lt c; clear c
    refine ft_go mi_k8 1 23 [(0, .ref 94), (1, .int x1)] [.int 0] i a q r (by rfl) ?_
    have fi_6017 : ((0 : Int) ≤ (i 6017).toInt) ∧ ((i 6017).toInt ≤ 50) := hG.I.1 6017
    exact ft_ret mi_k8 (by rfl) (hP 0 (Or.inr ⟨rfl, (oz963 c1 kn0)⟩))
  ·
    have c2 : (0 : Int32).toInt ≤ x1.toInt := kd_ltF c; clear c
    have fi_6017 : ((0 : Int) ≤ (i 6017).toInt) ∧ ((i 6017).toInt ≤ 50) := hG.I.1 6017
    refine ft_go mi_k8 3 9 [(0, .ref 94), (1, .int x1)] [.int (i 6017), .int x1] i a q r (by rfl) ?_
    refine ft_if mi_k8 (decide ((i 6017) ≤ x1)) 22 12 [(0, .ref 94), (1, .int x1)] [] (by rfl) (fun c => ?_) (fun c => ?_)
    ·
      have c3 : (i 6017).toInt ≤ x1.toInt := kd_le c; clear c
      refine ft_go mi_k8 1 23 [(0, .ref 94), (1, .int x1)] [.int 0] i a q r (by rfl) ?_
      exact ft_ret mi_k8 (by rfl) (hP 0 (Or.inr ⟨rfl, (oz964 c3)⟩))
    ·
      have c4 : x1.toInt < (i 6017).toInt := kd_leF c; clear c
      refine ft_go mi_k8 2 15 [(0, .ref 94), (1, .int x1)] [.int 50, .int x1] i a q r (by rfl) ?_
      refine ft_if mi_k8 (decide (50 ≤ x1)) 22 18 [(0, .ref 94), (1, .int x1)] [] (by rfl) (fun c => ?_) (fun c => ?_)
      ·
        have c5 : (50 : Int32).toInt ≤ x1.toInt := kd_le c; clear c
        exact (oz1244 c4 c5 fi_6017.2 kn50).elim
      ·
        have c6 : x1.toInt < (50 : Int32).toInt := kd_leF c; clear c
        refine ft_go mi_k8 2 23 [(0, .ref 94), (1, .int x1)] [.int 1] i a q r (by rfl) ?_
        exact ft_ret mi_k8 (by rfl) (hP 1 (Or.inl ⟨rfl, (oz966 c2 c4 kn0)⟩))
