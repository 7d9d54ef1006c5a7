theorem oz1232 {a0 a1 : Int} (h0 : a0 ≤ a1) (h1 : a1 = 60) : a0 ≤ 99 := by omega
theorem oz1233 {a0 a1 a2 : Int} (h0 : a0 ≤ 40) (h1 : a1 = a0 - a2) (h2 : a2 = 1) : a1 < 40 := by omega
theorem oz1234 {a0 a1 : Int} (h0 : a0 < a1) (h1 : a1 ≤ 40) : a0 < 40 := by omega
theorem oz1235 {a0 a1 a2 a3 a4 : Int} (h0 : a0 < a1) (h1 : a2 = a0) (h2 : a1 ≤ 40) (h3 : a3 = a2 + a4) (h4 : a4 = 1) : a3 ≤ 40 := by omega
theorem oz1236 {a0 a1 : Int} (h0 : a0 < a1) (h1 : a1 = 50) : a0 < 50 := by omega
theorem oz1237 {a0 a1 a2 a3 : Int} (h0 : a0 < a1) (h1 : a2 = a0 + a3) (h2 : a1 = 50) (h3 : a3 = 1) : a2 ≤ 50 := by omega
theorem oz1238 {a0 a1 a2 : Int} (h0 : a0 ≤ 50) (h1 : a1 = a0 + a2) (h2 : a2 = 1) : a1 - a2 ≤ 2147483647 := by omega
theorem oz1239 {a0 a1 a2 : Int} (h0 : a0 ≤ a1) (h1 : a1 ≤ a2) (h2 : a0 = 0) (h3 : a2 = 7) : ((0 : Int) ≤ a1) ∧ (a1 ≤ 7) := by omega
theorem oz1240 {a0 a1 a2 a3 : Int} (h0 : (0 : Int) ≤ a0) (h1 : a1 = a0 ∨ a1 = a2) (h2 : a2 = 24) (h3 : a3 = 1) : (-2147483648 : Int) ≤ a1 - a3 := by omega
theorem oz1241 {a0 : Int} (h0 : a0 = 1) : a0 ≤ 2 := by omega
theorem oz1242 {a0 : Int} (h0 : a0 = 0) : a0 ≤ 2 := by omega
theorem oz1244 {a0 a1 a2 : Int} (h0 : a0 < a1) (h1 : a2 ≤ a0) (h2 : a1 ≤ 50) (h3 : a2 = 50) : False := by omega
theorem oz1245 {a0 : Int} (h0 : ¬ (a0 = 0)) (h1 : ¬ (a0 = 1)) (h2 : ¬ (a0 = 2)) (h3 : ¬ (a0 = 3)) (h4 : ¬ (a0 = 4)) (h5 : ¬ (a0 = 5)) (h6 : (0 : Int) ≤ a0) (h7 : a0 ≤ 5) : False := by omega
theorem oz1246 {a0 : Int} (h0 : a0 = 2) : a0 ≤ 2 := by omega
theorem oz1247 {a0 a1 a2 a3 : Int} (h0 : a0 ≤ a1) (h1 : a2 = a3 ∨ a2 = a0) (h2 : a1 = 60) (h3 : a3 = 0) : a2 ≤ 60 := by omega
def w101_0 : kW := ([645, 3200, 3206, 3207, 3208, 3209, 3214, 3215, 3216, 3586, 3781, 6405], [13, 51, 52, 53, 54, 55, 57, 58, 62, 63, 65, 66, 67, 68, 69, 70, 71, 72, 73, 103], [], [1])
def w101_0_L85 : kW := ([645, 3200, 3206, 3207, 3208, 3209, 3214, 3215, 3216, 3586, 3781, 6405], [13, 51, 52, 53, 54, 55, 57, 58, 62, 63, 65, 66, 67, 68, 69, 70, 71, 72, 73, 103], [], [1])
set_option maxRecDepth 100000 in
theorem kc101_0 {i : Nat → Int32} {a : Nat → List Int32} {q : Nat → List Int64} {r : Nat → Nat} (hI : kI i a q) (hr : kr r) (x1 : Int32) (x2 : Int32) (x3 : Int32) : km 11 101 [.ref 0, .int x1, .int x2, .int x3] (ks i a q r) (kVI w101_0 i a q r (fun v i1 a1 q1 r1 => True)) := by
  have hG := kG_self w101_0 hI hr
  refine km_ofI (q := (mi_h101, mi_c101)) rfl (by decide) (Nat.le_of_ble_eq_true rfl) ?_
  intro P hP
  have s1 : 0 ≤ x2.toInt → (x2 / 10000).toInt = (x2.toInt / 10000) := kd_div 10000 kn10000 (by decide)
  have s2 : 0 ≤ x2.toInt → (x2 / 100).toInt = (x2.toInt / 100) := kd_div 100 kn100 (by decide)
  have s3 : 0 ≤ (x2 / 100).toInt → ((x2 / 100) - (x2 / 100) / 100 * 100).toInt = ((x2 / 100).toInt % 100) := kd_rem 100 kn100 (by decide)
  have s4 : 0 ≤ x2.toInt → (x2 - x2 / 100 * 100).toInt = (x2.toInt % 100) := kd_rem 100 kn100 (by decide)
  refine ft_go mi_k101 15 23 [(6, .int (x2 - x2 / 100 * 100)), (5, .int ((x2 / 100) - (x2 / 100) / 100 * 100)), (4, .int (x2 / 10000)), (0, .ref 0), (1, .int x1), (2, .int x2), (3, .int x3)] [.int x2] i a q r (by rfl) ?_
  refine ft_if mi_k101 (decide (x2 < 0)) 59 26 [(6, .int (x2 - x2 / 100 * 100)), (5, .int ((x2 / 100) - (x2 / 100) / 100 * 100)), (4, .int (x2 / 10000)), (0, .ref 0), (1, .int x1), (2, .int x2), (3, .int x3)] [] (by rfl) (fun c => ?_) (fun c => ?_)
  ·
    have c5 : x2.toInt < (0 : Int32).toInt := kd_lt c; clear c
    refine ft_go mi_k101 1 60 [(6, .int (x2 - x2 / 100 * 100)), (5, .int ((x2 / 100) - (x2 / 100) / 100 * 100)), (4, .int (x2 / 10000)), (0, .ref 0), (1, .int x1), (2, .int x2), (3, .int x3)] [.int (-1)] i a q r (by rfl) ?_
    exact ft_ret mi_k101 (by rfl) (hP (-1) _ _ _ _ hG trivial)
  ·
    have c6 : (0 : Int32).toInt ≤ x2.toInt := kd_ltF c; clear c
    refine ft_go mi_k101 3 31 [(6, .int (x2 - x2 / 100 * 100)), (5, .int ((x2 / 100) - (x2 / 100) / 100 * 100)), (4, .int (x2 / 10000)), (0, .ref 0), (1, .int x1), (2, .int x2), (3, .int x3)] [.int 30, .int 1, .int (x2 / 10000)] i a q r (by rfl) ?_
    refine ko_callPI mi_k101.1 (pc := 31) (ls := [(6, .int (x2 - x2 / 100 * 100)), (5, .int ((x2 / 100) - (x2 / 100) / 100 * 100)), (4, .int (x2 / 10000)), (0, .ref 0), (1, .int x1), (2, .int x2), (3, .int x3)]) (st := [.int 30, .int 1, .int (x2 / 10000)]) (h := ks i a q r) (i := (.invokestatic 74, 3, 120, 0, 9, 0, 152)) (mi_k101.2 _ _ (by rfl)) (ft_invS mi_pq120 (by rfl)) (cy := mi_c120) mi_pq120 rfl (kc120 hG.I hG.R (x2 / 10000) 1 30) (by decide) ?_
    intro vg7 hg7
    rcases hg7 with ⟨eg7, hg7⟩ | ⟨eg7, hg7⟩
    ·
      subst eg7
      have z8 : ((1 : Int32).toInt ≤ (x2 / 10000).toInt) ∧ ((x2 / 10000).toInt ≤ (30 : Int32).toInt) := hg7
      refine ft_go mi_k101 4 42 [(6, .int (x2 - x2 / 100 * 100)), (5, .int ((x2 / 100) - (x2 / 100) / 100 * 100)), (4, .int (x2 / 10000)), (0, .ref 0), (1, .int x1), (2, .int x2), (3, .int x3)] [.int 60, .int 1, .int ((x2 / 100) - (x2 / 100) / 100 * 100)] i a q r (by rfl) ?_
      refine ko_callPI mi_k101.1 (pc := 42) (ls := [(6, .int (x2 - x2 / 100 * 100)), (5, .int ((x2 / 100) - (x2 / 100) / 100 * 100)), (4, .int (x2 / 10000)), (0, .ref 0), (1, .int x1), (2, .int x2), (3, .int x3)]) (st := [.int 60, .int 1, .int ((x2 / 100) - (x2 / 100) / 100 * 100)]) (h := ks i a q r) (i := (.invokestatic 74, 3, 120, 0, 9, 0, 152)) (mi_k101.2 _ _ (by rfl)) (ft_invS mi_pq120 (by rfl)) (cy := mi_c120) mi_pq120 rfl (kc120 hG.I hG.R ((x2 / 100) - (x2 / 100) / 100 * 100) 1 60) (by decide) ?_
      intro vg9 hg9
      rcases hg9 with ⟨eg9, hg9⟩ | ⟨eg9, hg9⟩
      ·
        subst eg9
        have z10 : ((1 : Int32).toInt ≤ ((x2 / 100) - (x2 / 100) / 100 * 100).toInt) ∧ (((x2 / 100) - (x2 / 100) / 100 * 100).toInt ≤ (60 : Int32).toInt) := hg9
        refine ft_go mi_k101 4 53 [(6, .int (x2 - x2 / 100 * 100)), (5, .int ((x2 / 100) - (x2 / 100) / 100 * 100)), (4, .int (x2 / 10000)), (0, .ref 0), (1, .int x1), (2, .int x2), (3, .int x3)] [.int 12, .int 0, .int (x2 - x2 / 100 * 100)] i a q r (by rfl) ?_
        refine ko_callPI mi_k101.1 (pc := 53) (ls := [(6, .int (x2 - x2 / 100 * 100)), (5, .int ((x2 / 100) - (x2 / 100) / 100 * 100)), (4, .int (x2 / 10000)), (0, .ref 0), (1, .int x1), (2, .int x2), (3, .int x3)]) (st := [.int 12, .int 0, .int (x2 - x2 / 100 * 100)]) (h := ks i a q r) (i := (.invokestatic 74, 3, 120, 0, 9, 0, 152)) (mi_k101.2 _ _ (by rfl)) (ft_invS mi_pq120 (by rfl)) (cy := mi_c120) mi_pq120 rfl (kc120 hG.I hG.R (x2 - x2 / 100 * 100) 0 12) (by decide) ?_
        intro vg11 hg11
        rcases hg11 with ⟨eg11, hg11⟩ | ⟨eg11, hg11⟩
        ·
          subst eg11
          refine ft_go mi_k101 3 63 [(6, .int (x2 - x2 / 100 * 100)), (5, .int ((x2 / 100) - (x2 / 100) / 100 * 100)), (4, .int (x2 / 10000)), (0, .ref 0), (1, .int x1), (2, .int x2), (3, .int x3)] [.int (-1), .int x3] i a q r (by rfl) ?_
          refine ft_if mi_k101 (x3 == (-1)) 76 66 [(6, .int (x2 - x2 / 100 * 100)), (5, .int ((x2 / 100) - (x2 / 100) / 100 * 100)), (4, .int (x2 / 10000)), (0, .ref 0), (1, .int x1), (2, .int x2), (3, .int x3)] [] (by rfl) (fun c => ?_) (fun c => ?_)
          ·
            have c13 : x3.toInt = ((-1) : Int32).toInt := kd_eq c; clear c
            refine ft_go mi_k101 6 85 [(9, .int 0), (8, .int x1), (7, .int 0), (6, .int (x2 - x2 / 100 * 100)), (5, .int ((x2 / 100) - (x2 / 100) / 100 * 100)), (4, .int (x2 / 10000)), (0, .ref 0), (1, .int x1), (2, .int x2), (3, .int x3)] [] i a q r (by rfl) ?_
            have lp14 : ∀ (nz : Nat) (i14 : Nat → Int32) (a14 : Nat → List Int32) (q14 : Nat → List Int64) (r14 : Nat → Nat) (l9_14 : Int32) (l8_14 : Int32) (l7_14 : Int32), kG w101_0_L85 i a q r i14 a14 q14 r14 → (0 : Int) ≤ l9_14.toInt → (((x2 / 10000).toInt - l9_14.toInt)).toNat < nz → ko 11 (mi_h101, mi_c101) P (85, [(9, .int l9_14), (8, .int l8_14), (7, .int l7_14), (6, .int (x2 - x2 / 100 * 100)), (5, .int ((x2 / 100) - (x2 / 100) / 100 * 100)), (4, .int (x2 / 10000)), (0, .ref 0), (1, .int x1), (2, .int x2), (3, .int x3)], [], (0, 0), ks i14 a14 q14 r14) := by
              intro nz
              induction nz with
              | zero =>
                intro _ _ _ _ _ _ _ _ _ hm
                exact absurd hm (Nat.not_lt_zero _)
              | succ nz ih14 =>
                intro i14 a14 q14 r14 l9_14 l8_14 l7_14 hL14 p14_0 hm14
                refine ft_go mi_k101 2 89 [(9, .int l9_14), (8, .int l8_14), (7, .int l7_14), (6, .int (x2 - x2 / 100 * 100)), (5, .int ((x2 / 100) - (x2 / 100) / 100 * 100)), (4, .int (x2 / 10000)), (0, .ref 0), (1, .int x1), (2, .int x2), (3, .int x3)] [.int (x2 / 10000), .int l9_14] i14 a14 q14 r14 (by rfl) ?_
                refine ft_if mi_k101 (decide ((x2 / 10000) ≤ l9_14)) 130 92 [(9, .int l9_14), (8, .int l8_14), (7, .int l7_14), (6, .int (x2 - x2 / 100 * 100)), (5, .int ((x2 / 100) - (x2 / 100) / 100 * 100)), (4, .int (x2 / 10000)), (0, .ref 0), (1, .int x1), (2, .int x2), (3, .int x3)] [] (by rfl) (fun c => ?_) (fun c => ?_)
                ·
                  have c15 : (x2 / 10000).toInt ≤ l9_14.toInt := kd_le c; clear c
                  have hG16 := kG_call hG hL14 (by decide +kernel)
                  refine ft_go mi_k101 1 132 [(9, .int l9_14), (8, .int l8_14), (7, .int l7_14), (6, .int (x2 - x2 / 100 * 100)), (5, .int ((x2 / 100) - (x2 / 100) / 100 * 100)), (4, .int (x2 / 10000)), (0, .ref 0), (1, .int x1), (2, .int x2), (3, .int x3)] [.int l7_14] i14 a14 q14 r14 (by rfl) ?_
                  exact ft_ret mi_k101 (by rfl) (hP l7_14 _ _ _ _ hG16 trivial)
                ·
                  have c17 : l9_14.toInt < (x2 / 10000).toInt := kd_leF c; clear c
                  refine ft_go mi_k101 7 106 [(9, .int l9_14), (8, .int l8_14), (7, .int l7_14), (6, .int (x2 - x2 / 100 * 100)), (5, .int ((x2 / 100) - (x2 / 100) / 100 * 100)), (4, .int (x2 / 10000)), (0, .ref 0), (1, .int x1), (2, .int x2), (3, .int x3)] [.int (x2 - x2 / 100 * 100), .int ((x2 / 100) - (x2 / 100) / 100 * 100), .int l8_14, .ref 1, .ref 49] i14 a14 q14 r14 (by rfl) ?_
                  refine ko_callI mi_k101.1 (pc := 106) (ls := [(9, .int l9_14), (8, .int l8_14), (7, .int l7_14), (6, .int (x2 - x2 / 100 * 100)), (5, .int ((x2 / 100) - (x2 / 100) / 100 * 100)), (4, .int (x2 / 10000)), (0, .ref 0), (1, .int x1), (2, .int x2), (3, .int x3)]) (st := [.int (x2 - x2 / 100 * 100), .int ((x2 / 100) - (x2 / 100) / 100 * 100), .int l8_14, .ref 1, .ref 49]) (h := ks i14 a14 q14 r14) (i := (.invokevirtual 251, 3, 78, 0, 9, 0, 278)) (mi_k101.2 _ _ (by rfl)) (ft_invS mi_pq78 (by rfl)) (cy := mi_c78) mi_pq78 rfl (kc78_49_1 hL14.I hL14.R l8_14 ((x2 / 100) - (x2 / 100) / 100 * 100) (x2 - x2 / 100 * 100) (oz1232 z10.2 kn60)) (by decide) ?_
                  intro vg18 ig18 ag18 qg18 rg18 kg18 hg18
                  have hGg18 := kG_call hL14 kg18 (by decide +kernel)
                  refine ft_go mi_k101 5 118 [(8, .int vg18), (9, .int l9_14), (7, .int l7_14), (6, .int (x2 - x2 / 100 * 100)), (5, .int ((x2 / 100) - (x2 / 100) / 100 * 100)), (4, .int (x2 / 10000)), (0, .ref 0), (1, .int x1), (2, .int x2), (3, .int x3)] [.int x3, .ref 49, .int l7_14] ig18 ag18 qg18 rg18 (by rfl) ?_
                  refine ko_callPI mi_k101.1 (pc := 118) (ls := [(8, .int vg18), (9, .int l9_14), (7, .int l7_14), (6, .int (x2 - x2 / 100 * 100)), (5, .int ((x2 / 100) - (x2 / 100) / 100 * 100)), (4, .int (x2 / 10000)), (0, .ref 0), (1, .int x1), (2, .int x2), (3, .int x3)]) (st := [.int x3, .ref 49, .int l7_14]) (h := ks ig18 ag18 qg18 rg18) (i := (.invokevirtual 171, 3, 62, 0, 9, 0, 233)) (mi_k101.2 _ _ (by rfl)) (ft_invS mi_pq62 (by rfl)) (cy := mi_c62) mi_pq62 rfl (kc62_49 hGg18.I hGg18.R x3) (by decide) ?_
                  intro vg19 hg19
                  have b20 : ((-2147483648 : Int) ≤ l7_14.toInt) ∧ (l7_14.toInt ≤ 2147483647) := kd_bd l7_14
                  have b21 : ((-2147483648 : Int) ≤ vg19.toInt) ∧ (vg19.toInt ≤ 2147483647) := kd_bd vg19
                  have s22 : (l9_14 + 1).toInt = l9_14.toInt + (1 : Int32).toInt := kd_add (oz12 p14_0 kn1) (oz537 c17 z8.2 kn30 kn1)
                  refine ft_go mi_k101 4 85 [(9, .int (l9_14 + 1)), (7, .int (l7_14 + vg19)), (8, .int vg18), (6, .int (x2 - x2 / 100 * 100)), (5, .int ((x2 / 100) - (x2 / 100) / 100 * 100)), (4, .int (x2 / 10000)), (0, .ref 0), (1, .int x1), (2, .int x2), (3, .int x3)] [] ig18 ag18 qg18 rg18 (by rfl) ?_
                  refine ko_perm [(9, .int (l9_14 + 1)), (8, .int vg18), (7, .int (l7_14 + vg19)), (6, .int (x2 - x2 / 100 * 100)), (5, .int ((x2 / 100) - (x2 / 100) / 100 * 100)), (4, .int (x2 / 10000)), (0, .ref 0), (1, .int x1), (2, .int x2), (3, .int x3)] (List.forall_mem_cons.mpr ⟨(List.Mem.head _), (List.forall_mem_cons.mpr ⟨(List.Mem.tail _ (List.Mem.tail _ (List.Mem.head _))), (List.forall_mem_cons.mpr ⟨(List.Mem.tail _ (List.Mem.head _)), (List.forall_mem_cons.mpr ⟨(List.Mem.tail _ (List.Mem.tail _ (List.Mem.tail _ (List.Mem.head _)))), (List.forall_mem_cons.mpr ⟨(List.Mem.tail _ (List.Mem.tail _ (List.Mem.tail _ (List.Mem.tail _ (List.Mem.head _))))), (List.forall_mem_cons.mpr ⟨(List.Mem.tail _ (List.Mem.tail _ (List.Mem.tail _ (List.Mem.tail _ (List.Mem.tail _ (List.Mem.head _)))))), (List.forall_mem_cons.mpr ⟨(List.Mem.tail _ (List.Mem.tail _ (List.Mem.tail _ (List.Mem.tail _ (List.Mem.tail _ (List.Mem.tail _ (List.Mem.head _))))))), (List.forall_mem_cons.mpr ⟨(List.Mem.tail _ (List.Mem.tail _ (List.Mem.tail _ (List.Mem.tail _ (List.Mem.tail _ (List.Mem.tail _ (List.Mem.tail _ (List.Mem.head _)))))))), (List.forall_mem_cons.mpr ⟨(List.Mem.tail _ (List.Mem.tail _ (List.Mem.tail _ (List.Mem.tail _ (List.Mem.tail _ (List.Mem.tail _ (List.Mem.tail _ (List.Mem.tail _ (List.Mem.head _))))))))), (List.forall_mem_cons.mpr ⟨(List.Mem.tail _ (List.Mem.tail _ (List.Mem.tail _ (List.Mem.tail _ (List.Mem.tail _ (List.Mem.tail _ (List.Mem.tail _ (List.Mem.tail _ (List.Mem.tail _ (List.Mem.head _)))))))))), (fun _ h => absurd h List.not_mem_nil)⟩)⟩)⟩)⟩)⟩)⟩)⟩)⟩)⟩)⟩) ?_
                  exact ih14 _ _ _ _ _ _ _ hGg18 (oz14 p14_0 s22 kn1) (kj_meas (oz44 s22 kn1) (oz45 c17) hm14)
            exact lp14 _ _ _ _ _ _ _ _ (kG_self _ hG.I hG.R) (oz46 kn0) (Nat.lt_succ_self _)
          ·
            have c23 : x3.toInt ≠ ((-1) : Int32).toInt := kd_eqF c; clear c
            refine ft_go mi_k101 2 68 [(6, .int (x2 - x2 / 100 * 100)), (5, .int ((x2 / 100) - (x2 / 100) / 100 * 100)), (4, .int (x2 / 10000)), (0, .ref 0), (1, .int x1), (2, .int x2), (3, .int x3)] [.int x3, .ref 0] i a q r (by rfl) ?_
            refine ko_callPI mi_k101.1 (pc := 68) (ls := [(6, .int (x2 - x2 / 100 * 100)), (5, .int ((x2 / 100) - (x2 / 100) / 100 * 100)), (4, .int (x2 / 10000)), (0, .ref 0), (1, .int x1), (2, .int x2), (3, .int x3)]) (st := [.int x3, .ref 0]) (h := ks i a q r) (i := (.invokevirtual 141, 3, 123, 0, 9, 0, 162)) (mi_k101.2 _ _ (by rfl)) (ft_invS mi_pq123 (by rfl)) (cy := mi_c123) mi_pq123 rfl (kc123_0 hG.I hG.R x3) (by decide) ?_
            intro vg24 hg24
            rcases hg24 with ⟨eg24, hg24⟩ | ⟨eg24, hg24⟩
            ·
              subst eg24
              refine ft_go mi_k101 7 85 [(9, .int 0), (8, .int x1), (7, .int 0), (6, .int (x2 - x2 / 100 * 100)), (5, .int ((x2 / 100) - (x2 / 100) / 100 * 100)), (4, .int (x2 / 10000)), (0, .ref 0), (1, .int x1), (2, .int x2), (3, .int x3)] [] i a q r (by rfl) ?_
              have lp26 : ∀ (nz : Nat) (i26 : Nat → Int32) (a26 : Nat → List Int32) (q26 : Nat → List Int64) (r26 : Nat → Nat) (l9_26 : Int32) (l8_26 : Int32) (l7_26 : Int32), kG w101_0_L85 i a q r i26 a26 q26 r26 → (0 : Int) ≤ l9_26.toInt → (((x2 / 10000).toInt - l9_26.toInt)).toNat < nz → ko 11 (mi_h101, mi_c101) P (85, [(9, .int l9_26), (8, .int l8_26), (7, .int l7_26), (6, .int (x2 - x2 / 100 * 100)), (5, .int ((x2 / 100) - (x2 / 100) / 100 * 100)), (4, .int (x2 / 10000)), (0, .ref 0), (1, .int x1), (2, .int x2), (3, .int x3)], [], (0, 0), ks i26 a26 q26 r26) := by
                intro nz
                induction nz with
                | zero =>
                  intro _ _ _ _ _ _ _ _ _ hm
                  exact absurd hm (Nat.not_lt_zero _)
                | succ nz ih26 =>
                  intro i26 a26 q26 r26 l9_26 l8_26 l7_26 hL26 p26_0 hm26
                  refine ft_go mi_k101 2 89 [(9, .int l9_26), (8, .int l8_26), (7, .int l7_26), (6, .int (x2 - x2 / 100 * 100)), (5, .int ((x2 / 100) - (x2 / 100) / 100 * 100)), (4, .int (x2 / 10000)), (0, .ref 0), (1, .int x1), (2, .int x2), (3, .int x3)] [.int (x2 / 10000), .int l9_26] i26 a26 q26 r26 (by rfl) ?_
                  refine ft_if mi_k101 (decide ((x2 / 10000) ≤ l9_26)) 130 92 [(9, .int l9_26), (8, .int l8_26), (7, .int l7_26), (6, .int (x2 - x2 / 100 * 100)), (5, .int ((x2 / 100) - (x2 / 100) / 100 * 100)), (4, .int (x2 / 10000)), (0, .ref 0), (1, .int x1), (2, .int x2), (3, .int x3)] [] (by rfl) (fun c => ?_) (fun c => ?_)
                  ·
                    have c27 : (x2 / 10000).toInt ≤ l9_26.toInt := kd_le c; clear c
                    have hG28 := kG_call hG hL26 (by decide +kernel)
                    refine ft_go mi_k101 1 132 [(9, .int l9_26), (8, .int l8_26), (7, .int l7_26), (6, .int (x2 - x2 / 100 * 100)), (5, .int ((x2 / 100) - (x2 / 100) / 100 * 100)), (4, .int (x2 / 10000)), (0, .ref 0), (1, .int x1), (2, .int x2), (3, .int x3)] [.int l7_26] i26 a26 q26 r26 (by rfl) ?_
                    exact ft_ret mi_k101 (by rfl) (hP l7_26 _ _ _ _ hG28 trivial)
                  ·
                    have c29 : l9_26.toInt < (x2 / 10000).toInt := kd_leF c; clear c
                    refine ft_go mi_k101 7 106 [(9, .int l9_26), (8, .int l8_26), (7, .int l7_26), (6, .int (x2 - x2 / 100 * 100)), (5, .int ((x2 / 100) - (x2 / 100) / 100 * 100)), (4, .int (x2 / 10000)), (0, .ref 0), (1, .int x1), (2, .int x2), (3, .int x3)] [.int (x2 - x2 / 100 * 100), .int ((x2 / 100) - (x2 / 100) / 100 * 100), .int l8_26, .ref 1, .ref 49] i26 a26 q26 r26 (by rfl) ?_
                    refine ko_callI mi_k101.1 (pc := 106) (ls := [(9, .int l9_26), (8, .int l8_26), (7, .int l7_26), (6, .int (x2 - x2 / 100 * 100)), (5, .int ((x2 / 100) - (x2 / 100) / 100 * 100)), (4, .int (x2 / 10000)), (0, .ref 0), (1, .int x1), (2, .int x2), (3, .int x3)]) (st := [.int (x2 - x2 / 100 * 100), .int ((x2 / 100) - (x2 / 100) / 100 * 100), .int l8_26, .ref 1, .ref 49]) (h := ks i26 a26 q26 r26) (i := (.invokevirtual 251, 3, 78, 0, 9, 0, 278)) (mi_k101.2 _ _ (by rfl)) (ft_invS mi_pq78 (by rfl)) (cy := mi_c78) mi_pq78 rfl (kc78_49_1 hL26.I hL26.R l8_26 ((x2 / 100) - (x2 / 100) / 100 * 100) (x2 - x2 / 100 * 100) (oz1232 z10.2 kn60)) (by decide) ?_
                    intro vg30 ig30 ag30 qg30 rg30 kg30 hg30
                    have hGg30 := kG_call hL26 kg30 (by decide +kernel)
                    refine ft_go mi_k101 5 118 [(8, .int vg30), (9, .int l9_26), (7, .int l7_26), (6, .int (x2 - x2 / 100 * 100)), (5, .int ((x2 / 100) - (x2 / 100) / 100 * 100)), (4, .int (x2 / 10000)), (0, .ref 0), (1, .int x1), (2, .int x2), (3, .int x3)] [.int x3, .ref 49, .int l7_26] ig30 ag30 qg30 rg30 (by rfl) ?_
                    refine ko_callPI mi_k101.1 (pc := 118) (ls := [(8, .int vg30), (9, .int l9_26), (7, .int l7_26), (6, .int (x2 - x2 / 100 * 100)), (5, .int ((x2 / 100) - (x2 / 100) / 100 * 100)), (4, .int (x2 / 10000)), (0, .ref 0), (1, .int x1), (2, .int x2), (3, .int x3)]) (st := [.int x3, .ref 49, .int l7_26]) (h := ks ig30 ag30 qg30 rg30) (i := (.invokevirtual 171, 3, 62, 0, 9, 0, 233)) (mi_k101.2 _ _ (by rfl)) (ft_invS mi_pq62 (by rfl)) (cy := mi_c62) mi_pq62 rfl (kc62_49 hGg30.I hGg30.R x3) (by decide) ?_
                    intro vg31 hg31
                    have b32 : ((-2147483648 : Int) ≤ l7_26.toInt) ∧ (l7_26.toInt ≤ 2147483647) := kd_bd l7_26
                    have b33 : ((-2147483648 : Int) ≤ vg31.toInt) ∧ (vg31.toInt ≤ 2147483647) := kd_bd vg31
                    have s34 : (l9_26 + 1).toInt = l9_26.toInt + (1 : Int32).toInt := kd_add (oz12 p26_0 kn1) (oz537 c29 z8.2 kn30 kn1)
                    refine ft_go mi_k101 4 85 [(9, .int (l9_26 + 1)), (7, .int (l7_26 + vg31)), (8, .int vg30), (6, .int (x2 - x2 / 100 * 100)), (5, .int ((x2 / 100) - (x2 / 100) / 100 * 100)), (4, .int (x2 / 10000)), (0, .ref 0), (1, .int x1), (2, .int x2), (3, .int x3)] [] ig30 ag30 qg30 rg30 (by rfl) ?_
                    refine ko_perm [(9, .int (l9_26 + 1)), (8, .int vg30), (7, .int (l7_26 + vg31)), (6, .int (x2 - x2 / 100 * 100)), (5, .int ((x2 / 100) - (x2 / 100) / 100 * 100)), (4, .int (x2 / 10000)), (0, .ref 0), (1, .int x1), (2, .int x2), (3, .int x3)] (List.forall_mem_cons.mpr ⟨(List.Mem.head _), (List.forall_mem_cons.mpr ⟨(List.Mem.tail _ (List.Mem.tail _ (List.Mem.head _))), (List.forall_mem_cons.mpr ⟨(List.Mem.tail _ (List.Mem.head _)), (List.forall_mem_cons.mpr ⟨(List.Mem.tail _ (List.Mem.tail _ (List.Mem.tail _ (List.Mem.head _)))), (List.forall_mem_cons.mpr ⟨(List.Mem.tail _ (List.Mem.tail _ (List.Mem.tail _ (List.Mem.tail _ (List.Mem.head _))))), (List.forall_mem_cons.mpr ⟨(List.Mem.tail _ (List.Mem.tail _ (List.Mem.tail _ (List.Mem.tail _ (List.Mem.tail _ (List.Mem.head _)))))), (List.forall_mem_cons.mpr ⟨(List.Mem.tail _ (List.Mem.tail _ (List.Mem.tail _ (List.Mem.tail _ (List.Mem.tail _ (List.Mem.tail _ (List.Mem.head _))))))), (List.forall_mem_cons.mpr ⟨(List.Mem.tail _ (List.Mem.tail _ (List.Mem.tail _ (List.Mem.tail _ (List.Mem.tail _ (List.Mem.tail _ (List.Mem.tail _ (List.Mem.head _)))))))), (List.forall_mem_cons.mpr ⟨(List.Mem.tail _ (List.Mem.tail _ (List.Mem.tail _ (List.Mem.tail _ (List.Mem.tail _ (List.Mem.tail _ (List.Mem.tail _ (List.Mem.tail _ (List.Mem.head _))))))))), (List.forall_mem_cons.mpr ⟨(List.Mem.tail _ (List.Mem.tail _ (List.Mem.tail _ (List.Mem.tail _ (List.Mem.tail _ (List.Mem.tail _ (List.Mem.tail _ (List.Mem.tail _ (List.Mem.tail _ (List.Mem.head _)))))))))), (fun _ h => absurd h List.not_mem_nil)⟩)⟩)⟩)⟩)⟩)⟩)⟩)⟩)⟩)⟩) ?_
                    exact ih26 _ _ _ _ _ _ _ hGg30 (oz14 p26_0 s34 kn1) (kj_meas (oz44 s34 kn1) (oz45 c29) hm26)
              exact lp26 _ _ _ _ _ _ _ _ (kG_self _ hG.I hG.R) (oz46 kn0) (Nat.lt_succ_self _)
            ·
              subst eg24
              refine ft_go mi_k101 2 75 [(6, .int (x2 - x2 / 100 * 100)), (5, .int ((x2 / 100) - (x2 / 100) / 100 * 100)), (4, .int (x2 / 10000)), (0, .ref 0), (1, .int x1), (2, .int x2), (3, .int x3)] [.int (-1)] i a q r (by rfl) ?_
              exact ft_ret mi_k101 (by rfl) (hP (-1) _ _ _ _ hG trivial)
        ·
          subst eg11
          refine ft_go mi_k101 2 60 [(6, .int (x2 - x2 / 100 * 100)), (5, .int ((x2 / 100) - (x2 / 100) / 100 * 100)), (4, .int (x2 / 10000)), (0, .ref 0), (1, .int x1), (2, .int x2), (3, .int x3)] [.int (-1)] i a q r (by rfl) ?_
          exact ft_ret mi_k101 (by rfl) (hP (-1) _ _ _ _ hG trivial)
      ·
        subst eg9
        refine ft_go mi_k101 2 60 [(6, .int (x2 - x2 / 100 * 100)), (5, .int ((x2 / 100) - (x2 / 100) / 100 * 100)), (4, .int (x2 / 10000)), (0, .ref 0), (1, .int x1), (2, .int x2), (3, .int x3)] [.int (-1)] i a q r (by rfl) ?_
        exact ft_ret mi_k101 (by rfl) (hP (-1) _ _ _ _ hG trivial)
    ·
      subst eg7
      refine ft_go mi_k101 2 60 [(6, .int (x2 - x2 / 100 * 100)), (5, .int ((x2 / 100) - (x2 / 100) / 100 * 100)), (4, .int (x2 / 10000)), (0, .ref 0), (1, .int x1), (2, .int x2), (3, .int x3)] [.int (-1)] i a q r (by rfl) ?_
      exact ft_ret mi_k101 (by rfl) (hP (-1) _ _ _ _ hG trivial)
set_option maxRecDepth 100000 in
theorem kc112_0 {i : Nat → Int32} {a : Nat → List Int32} {q : Nat → List Int64} {r : Nat → Nat} (hI : kI i a q) (hr : kr r) (x1 : Int32) : km 3 112 [.ref 0, .int x1] (ks i a q r) (kPI (ks i a q r) (fun v => True)) := by
  have hG := kG_self kW0 hI hr
  refine km_ofPI (q := (mi_h112, mi_c112)) rfl (by decide) (Nat.le_of_ble_eq_true rfl) ?_
  intro P hP
  have fi_6019 : ((0 : Int) ≤ (i 6019).toInt) ∧ ((i 6019).toInt ≤ 1000) := hG.I.1 6019
  refine ft_go mi_k112 6 11 [(0, .ref 0), (1, .int x1)] [.int 24, .int (i 6019), .int 0, .int x1] i a q r (by rfl) ?_
  have m2 : (((bif decide (24 < (i 6019)) then 24 else (i 6019)).toInt ≤ (i 6019).toInt) ∧ ((bif decide (24 < (i 6019)) then 24 else (i 6019)).toInt ≤ (24 : Int32).toInt)) ∧ ((bif decide (24 < (i 6019)) then 24 else (i 6019)).toInt = (i 6019).toInt ∨ (bif decide (24 < (i 6019)) then 24 else (i 6019)).toInt = (24 : Int32).toInt) := kd_min
  refine ft_go mi_k112 1 14 [(0, .ref 0), (1, .int x1)] [.int (bif decide (24 < (i 6019)) then 24 else (i 6019)), .int 0, .int x1] i a q r (by rfl) ?_
  generalize (bif decide (24 < (i 6019)) then 24 else (i 6019)) = m1 at m2 ⊢
  have s3 : (m1 - 1).toInt = m1.toInt - (1 : Int32).toInt := kd_sub (oz1240 fi_6019.1 m2.2 kn24 kn1) (oz581 m2.1.2 kn24 kn1)
  refine ft_go mi_k112 2 16 [(0, .ref 0), (1, .int x1)] [.int (m1 - 1), .int 0, .int x1] i a q r (by rfl) ?_
  refine ko_callPI mi_k112.1 (pc := 16) (ls := [(0, .ref 0), (1, .int x1)]) (st := [.int (m1 - 1), .int 0, .int x1]) (h := ks i a q r) (i := (.invokestatic 74, 3, 120, 0, 9, 0, 152)) (mi_k112.2 _ _ (by rfl)) (ft_invS mi_pq120 (by rfl)) (cy := mi_c120) mi_pq120 rfl (kc120 hG.I hG.R x1 0 (m1 - 1)) (by decide) ?_
  intro vg4 hg4
  rcases hg4 with ⟨eg4, hg4⟩ | ⟨eg4, hg4⟩
  ·
    subst eg4
    have z5 : ((0 : Int32).toInt ≤ x1.toInt) ∧ (x1.toInt ≤ (m1 - 1).toInt) := hg4
    refine ft_go mi_k112 5 30 [(0, .ref 0), (1, .int x1)] [.int x1, .ref 96] i a q r (by rfl) ?_
    refine ko_iald3 mi_k112.1 (n := 24) (c := 24) (ax := (0, 0, 0, 0, 0)) (mi_k112.2 _ _ (by rfl)) (by rfl) (ksG96 _ _ _ _) (hG.I.2.1 96) rfl (oz389 z5.1 kn0) (oz582 m2.1.2 s3 z5.2 kn24 kn1) ?_
    refine ft_go mi_k112 1 35 [(0, .ref 0), (1, .int x1)] [.int ((a 96).getD x1.toNatClampNeg 0)] i a q r (by rfl) ?_
    exact ft_ret mi_k112 (by rfl) (hP ((a 96).getD x1.toNatClampNeg 0) trivial)
  ·
    subst eg4
    refine ft_go mi_k112 2 35 [(0, .ref 0), (1, .int x1)] [.int (-1)] i a q r (by rfl) ?_
    exact ft_ret mi_k112 (by rfl) (hP (-1) trivial)
set_option maxRecDepth 100000 in
theorem kc8_94 {i : Nat → Int32} {a : Nat → List Int32} {q : Nat → List Int64} {r : Nat → Nat} (hI : kI i a q) (hr : kr r) (x1 : Int32) : km 1 8 [.ref 94, .int x1] (ks i a q r) (kPI (ks i a q r) (fun v => (v = 1 ∧ (((0 : Int) ≤ x1.toInt) ∧ (x1.toInt < (i 6017).toInt))) ∨ (v = 0 ∧ (¬ (((0 : Int) ≤ x1.toInt) ∧ (x1.toInt < (i 6017).toInt)))))) := by
  have hG := kG_self kW0 hI hr
  refine km_ofPI (q := (mi_h8, mi_c8)) rfl (by decide) (Nat.le_of_ble_eq_true rfl) ?_
  intro P hP
  refine ft_go mi_k8 1 1 [(0, .ref 94), (1, .int x1)] [.int x1] i a q r (by rfl) ?_
  refine ft_if mi_k8 (decide (x1 < 0)) 22 4 [(0, .ref 94), (1, .int x1)] [] (by rfl) (fun c => ?_) (fun c => ?_)
  ·
    have c1 : x1.toInt < (0 : Int32).toInt := kd_lt c; clear c
    refine ft_go mi_k8 1 23 [(0, .ref 94), (1, .int x1)] [.int 0] i a q r (by rfl) ?_
    exact ft_ret mi_k8 (by rfl) (hP 0 (Or.inr ⟨rfl, (oz963 c1 kn0)⟩))
  ·
    have c2 : (0 : Int32).toInt ≤ x1.toInt := kd_ltF c; clear c
    have fi_6017 : ((0 : Int) ≤ (i 6017).toInt) ∧ ((i 6017).toInt ≤ 50) := hG.I.1 6017
    refine ft_go mi_k8 3 9 [(0, .ref 94), (1, .int x1)] [.int (i 6017), .int x1] i a q r (by rfl) ?_
    refine ft_if mi_k8 (decide ((i 6017) ≤ x1)) 22 12 [(0, .ref 94), (1, .int x1)] [] (by rfl) (fun c => ?_) (fun c => ?_)
    ·
      have c3 : (i 6017).toInt ≤ x1.toInt := kd_le c; clear c
      refine ft_go mi_k8 1 23 [(0, .ref 94), (1, .int x1)] [.int 0] i a q r (by rfl) ?_
      exact ft_ret mi_k8 (by rfl) (hP 0 (Or.inr ⟨rfl, (oz964 c3)⟩))
    ·
      have c4 : x1.toInt < (i 6017).toInt := kd_leF c; clear c
      refine ft_go mi_k8 2 15 [(0, .ref 94), (1, .int x1)] [.int 50, .int x1] i a q r (by rfl) ?_
      refine ft_if mi_k8 (decide (50 ≤ x1)) 22 18 [(0, .ref 94), (1, .int x1)] [] (by rfl) (fun c => ?_) (fun c => ?_)
      ·
        have c5 : (50 : Int32).toInt ≤ x1.toInt := kd_le c; clear c
        exact (oz1244 c4 c5 fi_6017.2 kn50).elim
      ·
        have c6 : x1.toInt < (50 : Int32).toInt := kd_leF c; clear c
        refine ft_go mi_k8 2 23 [(0, .ref 94), (1, .int x1)] [.int 1] i a q r (by rfl) ?_
        exact ft_ret mi_k8 (by rfl) (hP 1 (Or.inl ⟨rfl, (oz966 c2 c4 kn0)⟩))
