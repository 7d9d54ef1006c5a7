theorem oz959 {a0 a1 a2 a3 : Int} (h0 : a0 < a1) (h1 : a1 = 0) : ¬ ((((0 : Int) ≤ a0) ∧ (a0 ≤ 3) ∧ ((0 : Int) ≤ a2) ∧ (a2 < a3)) ∨ (((4 : Int) ≤ a0) ∧ (a0 ≤ 6) ∧ (a2 = 0))) := by omega
theorem oz960 {a0 a1 a2 : Int} (h0 : a0 < a1) (h1 : a2 ≤ a0) (h2 : a1 = 0) (h3 : a2 = 4) : False := by omega
theorem oz961 {a0 a1 : Int} (h0 : a0 ≤ a1) (h1 : a1 < a0) (h2 : a0 = 4) : False := by omega
theorem oz962 {a0 a1 a2 a3 : Int} (h0 : a0 < a1) (h1 : a0 = 6) : ¬ ((((0 : Int) ≤ a1) ∧ (a1 ≤ 3) ∧ ((0 : Int) ≤ a2) ∧ (a2 < a3)) ∨ (((4 : Int) ≤ a1) ∧ (a1 ≤ 6) ∧ (a2 = 0))) := by omega
theorem oz963 {a0 a1 a2 : Int} (h0 : a0 < a1) (h1 : a1 = 0) : ¬ (((0 : Int) ≤ a0) ∧ (a0 < a2)) := by omega
theorem oz964 {a0 a1 : Int} (h0 : a0 ≤ a1) : ¬ (((0 : Int) ≤ a1) ∧ (a1 < a0)) := by omega
theorem oz965 {a0 a1 a2 : Int} (h0 : a0 < a1) (h1 : a2 ≤ a0) (h2 : a1 ≤ 8) (h3 : a2 = 8) : False := by omega
theorem oz966 {a0 a1 a2 : Int} (h0 : a0 ≤ a1) (h1 : a1 < a2) (h2 : a0 = 0) : ((0 : Int) ≤ a1) ∧ (a1 < a2) := by omega
theorem oz967 {a0 a1 : Int} (h0 : (0 : Int) ≤ a0) (h1 : a0 < a1) : ((0 : Int) ≤ a0) ∧ (a0 < a1) := by omega
theorem oz968 {a0 a1 : Int} (h0 : ¬ (((0 : Int) ≤ a0) ∧ (a0 < a1))) : ¬ (((0 : Int) ≤ a0) ∧ (a0 < a1)) := by omega
theorem oz969 {a0 a1 a2 a3 a4 : Int} (h0 : a0 < a1) (h1 : a2 ≤ a0) (h2 : (0 : Int) ≤ a3) (h3 : a3 < a4) (h4 : a1 = 4) (h5 : a2 = 0) : (((0 : Int) ≤ a0) ∧ (a0 ≤ 3) ∧ ((0 : Int) ≤ a3) ∧ (a3 < a4)) ∨ (((4 : Int) ≤ a0) ∧ (a0 ≤ 6) ∧ (a3 = 0)) := by omega
theorem oz970 {a0 a1 a2 a3 : Int} (h0 : a0 < a1) (h1 : ¬ (((0 : Int) ≤ a2) ∧ (a2 < a3))) (h2 : a1 = 4) : ¬ ((((0 : Int) ≤ a0) ∧ (a0 ≤ 3) ∧ ((0 : Int) ≤ a2) ∧ (a2 < a3)) ∨ (((4 : Int) ≤ a0) ∧ (a0 ≤ 6) ∧ (a2 = 0))) := by omega
theorem oz971 {a0 a1 : Int} (h0 : a0 < a1) (h1 : a1 ≤ a0) (h2 : a1 = 4) : False := by omega
theorem oz972 {a0 : Int} (h0 : ¬ (a0 = 4)) (h1 : ¬ (a0 = 5)) (h2 : ¬ (a0 = 6)) : a0 < 4 ∨ 6 < a0 := by omega
theorem oz973 {a0 : Int} (h0 : ¬ (a0 = 0)) (h1 : ¬ (a0 = 1)) (h2 : ¬ (a0 = 2)) : a0 < 0 ∨ 2 < a0 := by omega
theorem oz974 {a0 a1 : Int} (h0 : a0 ≤ 8) (h1 : a1 < a0) : a1 < 8 := by omega
theorem oz975 {a0 a1 : Int} (h0 : a0 < a1) (h1 : a1 = 40) : a0 < 40 := by omega
theorem oz976 {a0 a1 a2 a3 : Int} (h0 : a0 < a1) (h1 : a2 = a0 + a3) (h2 : a1 = 40) (h3 : a3 = 1) : a2 ≤ 40 := by omega
theorem oz977 {a0 : Int} (h0 : a0 = 39) : (0 : Int) ≤ a0 := by omega
theorem oz978 {a0 : Int} (h0 : a0 = 39) : a0 ≤ 40 := by omega
theorem oz979 {a0 a1 : Int} (h0 : a0 = 1) (h1 : a1 = 39) : a0 + a1 ≤ 40 := by omega
theorem oz980 {a0 a1 : Int} (h0 : a0 = 0) (h1 : a1 = 39) : a0 + a1 ≤ 40 := by omega
theorem oz981 {a0 : Int} (h0 : a0 = 39) : a0 = 39 := by omega
theorem oz982 {a0 : Int} (h0 : a0 = 39) : a0 < 40 := by omega
theorem oz983 {a0 a1 : Int} (h0 : a0 = 39) (h1 : a1 = 1) : (-2147483648 : Int) ≤ a0 + a1 := by omega
theorem oz984 {a0 a1 a2 : Int} (h0 : a0 = a1 + a2) (h1 : a1 = 39) (h2 : a2 = 1) : (0 : Int) ≤ a0 := by omega
theorem oz985 {a0 a1 a2 : Int} (h0 : a0 = a1 + a2) (h1 : a1 = 39) (h2 : a2 = 1) : a0 ≤ 40 := by omega
theorem oz986 {a0 a1 : Int} (h0 : a0 < a1) (h1 : a1 = 120) : a0 < 120 := by omega
theorem oz987 {a0 a1 a2 a3 : Int} (h0 : a0 < a1) (h1 : a2 = a0 + a3) (h2 : a1 = 120) (h3 : a3 = 1) : a2 ≤ 120 := by omega
theorem oz988 {a0 a1 : Int} (h0 : a0 < a1) (h1 : a1 ≤ 5) : a0 < 5 := by omega
theorem oz989 {a0 a1 : Int} (h0 : (0 : Int) ≤ a0) (h1 : a0 ≤ 5) (h2 : a1 = 0) : (a1 < 0) ∨ ((a1 = 0) ∧ ((0 : Int) ≤ a0) ∧ (a0 ≤ 5)) := by omega
theorem oz990 {a0 a1 : Int} (h0 : a0 = (-12)) : (a0 < 0) ∨ ((a0 = 0) ∧ ((0 : Int) ≤ a1) ∧ (a1 ≤ 5)) := by omega
theorem oz991 {a0 : Int} (h0 : a0 = 0) (h1 : ¬ (a0 = 0)) (h2 : (0 : Int) ≤ a0) : False := by omega
theorem oz992 {a0 a1 : Int} (h0 : a0 = (-11)) : (a0 < 0) ∨ ((a0 = 0) ∧ ((0 : Int) ≤ a1) ∧ (a1 ≤ 5)) := by omega
theorem oz994 {a0 a1 : Int} (h0 : a0 = 1) (h1 : a0 ≤ 5) (h2 : a1 = 0) : (a1 < 0) ∨ ((a1 = 0) ∧ ((0 : Int) ≤ a0) ∧ (a0 ≤ 5)) := by omega
theorem oz995 {a0 : Int} (h0 : a0 = 1) (h1 : ¬ (a0 = 1)) : False := by omega
theorem oz997 {a0 a1 : Int} (h0 : a0 = 2) (h1 : a0 ≤ 5) (h2 : a1 = 0) : (a1 < 0) ∨ ((a1 = 0) ∧ ((0 : Int) ≤ a0) ∧ (a0 ≤ 5)) := by omega
theorem oz998 {a0 : Int} (h0 : a0 = 2) (h1 : ¬ (a0 = 2)) : False := by omega
theorem oz1000 {a0 a1 : Int} (h0 : a0 = 3) (h1 : a0 ≤ 5) (h2 : a1 = 0) : (a1 < 0) ∨ ((a1 = 0) ∧ ((0 : Int) ≤ a0) ∧ (a0 ≤ 5)) := by omega
theorem oz1001 {a0 : Int} (h0 : a0 = 3) (h1 : ¬ (a0 = 3)) : False := by omega
theorem oz1003 {a0 a1 : Int} (h0 : a0 = 4) (h1 : a0 ≤ 5) (h2 : a1 = 0) : (a1 < 0) ∨ ((a1 = 0) ∧ ((0 : Int) ≤ a0) ∧ (a0 ≤ 5)) := by omega
theorem oz1004 {a0 : Int} (h0 : a0 = 4) (h1 : ¬ (a0 = 4)) : False := by omega
theorem oz1006 {a0 a1 : Int} (h0 : a0 = 5) (h1 : a0 ≤ 5) (h2 : a1 = 0) : (a1 < 0) ∨ ((a1 = 0) ∧ ((0 : Int) ≤ a0) ∧ (a0 ≤ 5)) := by omega
theorem oz1007 {a0 : Int} (h0 : a0 = 5) (h1 : ¬ (a0 = 5)) (h2 : a0 ≤ 5) : False := by omega
theorem oz1008 {a0 : Int} (h0 : ¬ (a0 = 1)) (h1 : ¬ (a0 = 2)) (h2 : ¬ (a0 = 0)) (h3 : ¬ (a0 = 3)) (h4 : ¬ (a0 = 4)) (h5 : ¬ (a0 = 5)) (h6 : (0 : Int) ≤ a0) (h7 : a0 ≤ 5) : False := by omega
theorem oz1009 {a0 a1 : Int} (h0 : a0 = (-1)) : (a0 < 0) ∨ ((a0 = 0) ∧ ((0 : Int) ≤ a1) ∧ (a1 ≤ 5)) := by omega
theorem oz1010 {a0 a1 a2 : Int} (h0 : a0 ≠ a1) (h1 : (a0 < 0) ∨ ((a0 = 0) ∧ ((0 : Int) ≤ a2) ∧ (a2 ≤ 5))) (h2 : a1 = 0) : (a0 < 0) ∨ (a0 = 0) := by omega
theorem oz1012 {a0 a1 : Int} (h0 : a0 < a1) (h1 : a1 = 20) : a0 < 60 := by omega
theorem oz1013 {a0 a1 : Int} (h0 : a0 < a1) (h1 : a1 = 20) : a0 < 20 := by omega
theorem oz1014 {a0 a1 a2 : Int} (h0 : a0 < a1) (h1 : a1 = 20) (h2 : a2 = 1) : a0 + a2 ≤ 2147483647 := by omega
theorem oz1015 {a0 a1 : Int} (h0 : a0 = a1) (h1 : a1 = 0) : (a0 < 0) ∨ (a0 = 0) := by omega
theorem oz1016 {a0 a1 a2 : Int} (h0 : a0 = a1) (h1 : ¬ (a2 = 3)) (h2 : ¬ (a2 = 4)) (h3 : ¬ (a2 = 5)) (h4 : ¬ (a2 = 0)) (h5 : ¬ (a2 = 1)) (h6 : ¬ (a2 = 2)) (h7 : (a0 < 0) ∨ ((a0 = 0) ∧ ((0 : Int) ≤ a2) ∧ (a2 ≤ 5))) (h8 : a1 = 0) : False := by omega
theorem oz1017 {a0 a1 a2 a3 : Int} (h0 : a0 ≤ a1) (h1 : a2 = a3 ∨ a2 = a0) (h2 : a1 = 8) (h3 : a3 = 0) : a3 + a2 ≤ 8 := by omega
theorem oz1018 {a0 a1 : Int} (h0 : a0 = 0) (h1 : a1 = 5) : a0 + a1 ≤ 5 := by omega
theorem oz1019 {a0 a1 : Int} (h0 : a0 = 0) (h1 : a1 = 8) : a0 + a1 ≤ 8 := by omega
theorem oz1021 {a0 a1 : Int} (h0 : a0 < a1) (h1 : a0 = 1) (h2 : a1 = 8) : ((0 : Int) ≤ a0) ∧ (a0 ≤ 7) := by omega
theorem oz1022 {a0 a1 : Int} (h0 : a0 < a1) (h1 : a0 = 2) (h2 : a1 = 8) : ((0 : Int) ≤ a0) ∧ (a0 ≤ 7) := by omega
theorem oz1023 {a0 a1 : Int} (h0 : a0 < a1) (h1 : a0 = 3) (h2 : a1 = 8) : ((0 : Int) ≤ a0) ∧ (a0 ≤ 7) := by omega
theorem oz1024 {a0 a1 : Int} (h0 : a0 < a1) (h1 : a0 = 4) (h2 : a1 = 8) : ((0 : Int) ≤ a0) ∧ (a0 ≤ 7) := by omega
theorem oz1025 {a0 a1 : Int} (h0 : a0 < a1) (h1 : a0 = 5) (h2 : a1 = 8) : ((0 : Int) ≤ a0) ∧ (a0 ≤ 7) := by omega
theorem oz1026 {a0 a1 : Int} (h0 : a0 < a1) (h1 : a0 = 6) (h2 : a1 = 8) : ((0 : Int) ≤ a0) ∧ (a0 ≤ 7) := by omega
theorem oz1027 {a0 a1 : Int} (h0 : a0 < a1) (h1 : a0 = 7) (h2 : a1 = 8) : ((0 : Int) ≤ a0) ∧ (a0 ≤ 7) := by omega
theorem oz1028 {a0 a1 : Int} (h0 : a0 < a1) (h1 : (0 : Int) ≤ a0) (h2 : ¬ (a0 = 0)) (h3 : ¬ (a0 = 1)) (h4 : ¬ (a0 = 2)) (h5 : ¬ (a0 = 3)) (h6 : ¬ (a0 = 4)) (h7 : ¬ (a0 = 5)) (h8 : ¬ (a0 = 6)) (h9 : ¬ (a0 = 7)) (h10 : a1 = 8) : False := by omega
theorem oz1029 {a0 a1 a2 : Int} (h0 : a0 ≤ a1) (h1 : a1 = 4) (h2 : a2 = 1) : a0 + a2 ≤ 2147483647 := by omega
theorem oz1030 {a0 a1 : Int} (h0 : a0 ≤ a1) (h1 : a1 = 4) : (1 : Int) ≤ (5 - a0) := by omega
theorem oz1031 {a0 a1 a2 : Int} (h0 : a0 < a1) (h1 : a2 ≤ a0) (h2 : a1 ≤ 20) (h3 : a2 = 20) : False := by omega
theorem oz1032 {a0 : Int} (h0 : a0 ≤ 7) : a0 < 8 := by omega
theorem oz1033 {a0 : Int} (h0 : a0 = 0) : a0 ≤ 121 := by omega
theorem oz1034 {a0 a1 : Int} (h0 : a0 < a1) (h1 : a1 ≤ 121) : a0 < 121 := by omega
theorem oz1035 {a0 a1 a2 : Int} (h0 : a0 < a1) (h1 : a1 ≤ 121) (h2 : a2 = 1) : a0 + a2 ≤ 2147483647 := by omega
theorem oz1036 {a0 a1 a2 : Int} (h0 : a0 < a1) (h1 : a1 = 121) (h2 : a2 = 1) : a0 + a2 ≤ 2147483647 := by omega
theorem oz1037 {a0 a1 a2 : Int} (h0 : a0 = a1 + a2) (h1 : a2 = 1) : (121 - a0) < (121 - a1) := by omega
theorem oz1038 {a0 a1 : Int} (h0 : a0 < a1) (h1 : a1 = 121) : (1 : Int) ≤ (121 - a0) := by omega
theorem oz1039 {a0 a1 : Int} (h0 : a0 < a1) (h1 : a1 = 6) : a0 < 6 := by omega
theorem oz1040 {a0 a1 a2 : Int} (h0 : a0 < a1) (h1 : a0 = 0) (h2 : a2 = 1) : (-2147483648 : Int) ≤ a1 - a2 := by omega
theorem oz1041 {a0 a1 a2 a3 : Int} (h0 : a0 < a1) (h1 : a2 = a1 - a3) (h2 : a0 = 0) (h3 : a3 = 1) : (0 : Int) ≤ a2 := by omega
theorem oz1042 {a0 a1 a2 : Int} (h0 : a0 ≤ 121) (h1 : a1 = a0 - a2) (h2 : a2 = 1) : a1 ≤ 121 := by omega
theorem oz1043 {a0 a1 a2 : Int} (h0 : a0 ≤ 121) (h1 : a1 = a0 - a2) (h2 : a2 = 1) : a1 < 121 := by omega
set_option maxRecDepth 100000 in
theorem kc24_1 {i : Nat → Int32} {a : Nat → List Int32} {q : Nat → List Int64} {r : Nat → Nat} (hI : kI i a q) (hr : kr r) (x1 : Int32) : km 1 24 [.ref 1, .int x1] (ks i a q r) (kPI (ks i a q r) (fun v => (v = 1 ∧ (((0 : Int) ≤ x1.toInt) ∧ (x1.toInt < (i 64).toInt))) ∨ (v = 0 ∧ (¬ (((0 : Int) ≤ x1.toInt) ∧ (x1.toInt < (i 64).toInt)))))) := by
  have hG := kG_self kW0 hI hr
  refine km_ofPI (q := (mi_h24, mi_c24)) rfl (by decide) (Nat.le_of_ble_eq_true rfl) ?_
  intro P hP
  refine ft_go mi_k24 1 1 [(0, .ref 1), (1, .int x1)] [.int x1] i a q r (by rfl) ?_
  refine ft_if mi_k24 (decide (x1 < 0)) 22 4 [(0, .ref 1), (1, .int x1)] [] (by rfl) (fun c => ?_) (fun c => ?_)
  ·
    have c1 : x1.toInt < (0 : Int32).toInt := kd_lt c; clear c
    refine ft_go mi_k24 1 23 [(0, .ref 1), (1, .int x1)] [.int 0] i a q r (by rfl) ?_
    exact ft_ret mi_k24 (by rfl) (hP 0 (Or.inr ⟨rfl, (oz963 c1 kn0)⟩))
  ·
    have c2 : (0 : Int32).toInt ≤ x1.toInt := kd_ltF c; clear c
    have fi_64 : ((0 : Int) ≤ (i 64).toInt) ∧ ((i 64).toInt ≤ 8) := hG.I.1 64
    refine ft_go mi_k24 3 9 [(0, .ref 1), (1, .int x1)] [.int (i 64), .int x1] i a q r (by rfl) ?_
    refine ft_if mi_k24 (decide ((i 64) ≤ x1)) 22 12 [(0, .ref 1), (1, .int x1)] [] (by rfl) (fun c => ?_) (fun c => ?_)
    ·
      have c3 : (i 64).toInt ≤ x1.toInt := kd_le c; clear c
      refine ft_go mi_k24 1 23 [(0, .ref 1), (1, .int x1)] [.int 0] i a q r (by rfl) ?_
      exact ft_ret mi_k24 (by rfl) (hP 0 (Or.inr ⟨rfl, (oz964 c3)⟩))
    ·
      have c4 : x1.toInt < (i 64).toInt := kd_leF c; clear c
      refine ft_go mi_k24 2 15 [(0, .ref 1), (1, .int x1)] [.int 8, .int x1] i a q r (by rfl) ?_
      refine ft_if mi_k24 (decide (8 ≤ x1)) 22 18 [(0, .ref 1), (1, .int x1)] [] (by rfl) (fun c => ?_) (fun c => ?_)
      ·
        have c5 : (8 : Int32).toInt ≤ x1.toInt := kd_le c; clear c
        exact (oz965 c4 c5 fi_64.2 kn8).elim
      ·
        have c6 : x1.toInt < (8 : Int32).toInt := kd_leF c; clear c
        refine ft_go mi_k24 2 23 [(0, .ref 1), (1, .int x1)] [.int 1] i a q r (by rfl) ?_
        exact ft_ret mi_k24 (by rfl) (hP 1 (Or.inl ⟨rfl, (oz966 c2 c4 kn0)⟩))
set_option maxRecDepth 100000 in
theorem kc123_0 {i : Nat → Int32} {a : Nat → List Int32} {q : Nat → List Int64} {r : Nat → Nat} (hI : kI i a q) (hr : kr r) (x1 : Int32) : km 3 123 [.ref 0, .int x1] (ks i a q r) (kPI (ks i a q r) (fun v => (v = 1 ∧ (((0 : Int) ≤ x1.toInt) ∧ (x1.toInt < (i 64).toInt))) ∨ (v = 0 ∧ (¬ (((0 : Int) ≤ x1.toInt) ∧ (x1.toInt < (i 64).toInt)))))) := by
  have hG := kG_self kW0 hI hr
  refine km_ofPI (q := (mi_h123, mi_c123)) rfl (by decide) (Nat.le_of_ble_eq_true rfl) ?_
  intro P hP
  refine ft_go mi_k123 3 5 [(0, .ref 0), (1, .int x1)] [.int x1, .ref 1] i a q r (by rfl) ?_
  refine ko_callPI mi_k123.1 (pc := 5) (ls := [(0, .ref 0), (1, .int x1)]) (st := [.int x1, .ref 1]) (h := ks i a q r) (i := (.invokevirtual 342, 3, 24, 0, 9, 0, 163)) (mi_k123.2 _ _ (by rfl)) (ft_invS mi_pq24 (by rfl)) (cy := mi_c24) mi_pq24 rfl (kc24_1 hG.I hG.R x1) (by decide) ?_
  intro vg1 hg1
  rcases hg1 with ⟨eg1, hg1⟩ | ⟨eg1, hg1⟩
  ·
    subst eg1
    have z2 : ((0 : Int) ≤ x1.toInt) ∧ (x1.toInt < (i 64).toInt) := hg1
    exact ft_ret mi_k123 (by rfl) (hP 1 (Or.inl ⟨rfl, (oz967 z2.1 z2.2)⟩))
  ·
    subst eg1
    have z3 : ¬ (((0 : Int) ≤ x1.toInt) ∧ (x1.toInt < (i 64).toInt)) := hg1
    exact ft_ret mi_k123 (by rfl) (hP 0 (Or.inr ⟨rfl, (oz968 z3)⟩))
set_option maxRecDepth 100000 in
theorem kc125_0 {i : Nat → Int32} {a : Nat → List Int32} {q : Nat → List Int64} {r : Nat → Nat} (hI : kI i a q) (hr : kr r) (x1 : Int32) (x2 : Int32) : km 5 125 [.ref 0, .int x1, .int x2] (ks i a q r) (kPI (ks i a q r) (fun v => (v = 1 ∧ ((((0 : Int) ≤ x2.toInt) ∧ (x2.toInt ≤ 3) ∧ ((0 : Int) ≤ x1.toInt) ∧ (x1.toInt < (i 64).toInt)) ∨ (((4 : Int) ≤ x2.toInt) ∧ (x2.toInt ≤ 6) ∧ (x1.toInt = 0)))) ∨ (v = 0 ∧ (¬ ((((0 : Int) ≤ x2.toInt) ∧ (x2.toInt ≤ 3) ∧ ((0 : Int) ≤ x1.toInt) ∧ (x1.toInt < (i 64).toInt)) ∨ (((4 : Int) ≤ x2.toInt) ∧ (x2.toInt ≤ 6) ∧ (x1.toInt = 0))))))) := by
  have hG := kG_self kW0 hI hr
  refine km_ofPI (q := (mi_h125, mi_c125)) rfl (by decide) (Nat.le_of_ble_eq_true rfl) ?_
  intro P hP
  refine ft_go mi_k125 1 1 [(0, .ref 0), (1, .int x1), (2, .int x2)] [.int x2] i a q r (by rfl) ?_
  refine ft_if mi_k125 (decide (x2 < 0)) 17 4 [(0, .ref 0), (1, .int x1), (2, .int x2)] [] (by rfl) (fun c => ?_) (fun c => ?_)
  ·
    have c1 : x2.toInt < (0 : Int32).toInt := kd_lt c; clear c
    refine ft_go mi_k125 2 19 [(0, .ref 0), (1, .int x1), (2, .int x2)] [.int 4, .int x2] i a q r (by rfl) ?_
    refine ft_if mi_k125 (decide (x2 < 4)) 36 22 [(0, .ref 0), (1, .int x1), (2, .int x2)] [] (by rfl) (fun c => ?_) (fun c => ?_)
    ·
      have c2 : x2.toInt < (4 : Int32).toInt := kd_lt c; clear c
      refine ft_go mi_k125 1 37 [(0, .ref 0), (1, .int x1), (2, .int x2)] [.int 0] i a q r (by rfl) ?_
      exact ft_ret mi_k125 (by rfl) (hP 0 (Or.inr ⟨rfl, (oz959 c1 kn0)⟩))
    ·
      have c3 : (4 : Int32).toInt ≤ x2.toInt := kd_ltF c; clear c
      exact (oz960 c1 c3 kn0 kn4).elim
  ·
    have c4 : (0 : Int32).toInt ≤ x2.toInt := kd_ltF c; clear c
    refine ft_go mi_k125 2 6 [(0, .ref 0), (1, .int x1), (2, .int x2)] [.int 4, .int x2] i a q r (by rfl) ?_
    refine ft_if mi_k125 (decide (4 ≤ x2)) 17 9 [(0, .ref 0), (1, .int x1), (2, .int x2)] [] (by rfl) (fun c => ?_) (fun c => ?_)
    ·
      have c5 : (4 : Int32).toInt ≤ x2.toInt := kd_le c; clear c
      refine ft_go mi_k125 2 19 [(0, .ref 0), (1, .int x1), (2, .int x2)] [.int 4, .int x2] i a q r (by rfl) ?_
      refine ft_if mi_k125 (decide (x2 < 4)) 36 22 [(0, .ref 0), (1, .int x1), (2, .int x2)] [] (by rfl) (fun c => ?_) (fun c => ?_)
      ·
        have c6 : x2.toInt < (4 : Int32).toInt := kd_lt c; clear c
        exact (oz961 c5 c6 kn4).elim
      ·
        have c7 : (4 : Int32).toInt ≤ x2.toInt := kd_ltF c; clear c
        refine ft_go mi_k125 2 25 [(0, .ref 0), (1, .int x1), (2, .int x2)] [.int 6, .int x2] i a q r (by rfl) ?_
        refine ft_if mi_k125 (decide (6 < x2)) 36 28 [(0, .ref 0), (1, .int x1), (2, .int x2)] [] (by rfl) (fun c => ?_) (fun c => ?_)
        ·
          have c8 : (6 : Int32).toInt < x2.toInt := kd_lt c; clear c
          refine ft_go mi_k125 1 37 [(0, .ref 0), (1, .int x1), (2, .int x2)] [.int 0] i a q r (by rfl) ?_
          exact ft_ret mi_k125 (by rfl) (hP 0 (Or.inr ⟨rfl, (oz962 c8 kn6)⟩))
        ·
          have c9 : x2.toInt ≤ (6 : Int32).toInt := kd_ltF c; clear c
          refine ft_go mi_k125 1 29 [(0, .ref 0), (1, .int x1), (2, .int x2)] [.int x1] i a q r (by rfl) ?_
          refine ft_if mi_k125 (x1 != 0) 36 32 [(0, .ref 0), (1, .int x1), (2, .int x2)] [] (by rfl) (fun c => ?_) (fun c => ?_)
          ·
            have c10 : x1.toInt ≠ (0 : Int32).toInt := kd_ne c; clear c
            refine ft_go mi_k125 1 37 [(0, .ref 0), (1, .int x1), (2, .int x2)] [.int 0] i a q r (by rfl) ?_
            exact ft_ret mi_k125 (by rfl) (hP 0 (Or.inr ⟨rfl, (oz53 c10 c5 kn0 kn4)⟩))
          ·
            have c11 : x1.toInt = (0 : Int32).toInt := kd_neF c; clear c
            refine ft_go mi_k125 2 37 [(0, .ref 0), (1, .int x1), (2, .int x2)] [.int 1] i a q r (by rfl) ?_
            exact ft_ret mi_k125 (by rfl) (hP 1 (Or.inl ⟨rfl, (oz54 c11 c5 c9 kn0 kn4 kn6)⟩))
    ·
      have c12 : x2.toInt < (4 : Int32).toInt := kd_leF c; clear c
      refine ft_go mi_k125 2 11 [(0, .ref 0), (1, .int x1), (2, .int x2)] [.int x1, .ref 0] i a q r (by rfl) ?_
      refine ko_callPI mi_k125.1 (pc := 11) (ls := [(0, .ref 0), (1, .int x1), (2, .int x2)]) (st := [.int x1, .ref 0]) (h := ks i a q r) (i := (.invokevirtual 141, 3, 123, 0, 9, 0, 162)) (mi_k125.2 _ _ (by rfl)) (ft_invS mi_pq123 (by rfl)) (cy := mi_c123) mi_pq123 rfl (kc123_0 hG.I hG.R x1) (by decide) ?_
      intro vg13 hg13
      rcases hg13 with ⟨eg13, hg13⟩ | ⟨eg13, hg13⟩
      ·
        subst eg13
        have z14 : ((0 : Int) ≤ x1.toInt) ∧ (x1.toInt < (i 64).toInt) := hg13
        refine ft_go mi_k125 3 37 [(0, .ref 0), (1, .int x1), (2, .int x2)] [.int 1] i a q r (by rfl) ?_
        exact ft_ret mi_k125 (by rfl) (hP 1 (Or.inl ⟨rfl, (oz969 c12 c4 z14.1 z14.2 kn4 kn0)⟩))
      ·
        subst eg13
        have z15 : ¬ (((0 : Int) ≤ x1.toInt) ∧ (x1.toInt < (i 64).toInt)) := hg13
        refine ft_go mi_k125 3 19 [(0, .ref 0), (1, .int x1), (2, .int x2)] [.int 4, .int x2] i a q r (by rfl) ?_
        refine ft_if mi_k125 (decide (x2 < 4)) 36 22 [(0, .ref 0), (1, .int x1), (2, .int x2)] [] (by rfl) (fun c => ?_) (fun c => ?_)
        ·
          have c16 : x2.toInt < (4 : Int32).toInt := kd_lt c; clear c
          refine ft_go mi_k125 1 37 [(0, .ref 0), (1, .int x1), (2, .int x2)] [.int 0] i a q r (by rfl) ?_
          exact ft_ret mi_k125 (by rfl) (hP 0 (Or.inr ⟨rfl, (oz970 c12 z15 kn4)⟩))
        ·
          have c17 : (4 : Int32).toInt ≤ x2.toInt := kd_ltF c; clear c
          exact (oz971 c12 c17 kn4).elim
set_option maxRecDepth 100000 in
theorem kc127_0 {i : Nat → Int32} {a : Nat → List Int32} {q : Nat → List Int64} {r : Nat → Nat} (hI : kI i a q) (hr : kr r) (x1 : Int32) : km 5 127 [.ref 0, .int x1] (ks i a q r) (kPI (ks i a q r) (fun v => (v.toInt < 0) ∨ ((v.toInt = 0) ∧ ((0 : Int) ≤ x1.toInt) ∧ (x1.toInt ≤ 5)))) := by
  have hG := kG_self kW0 hI hr
  refine km_ofPI (q := (mi_h127, mi_c127)) rfl (by decide) (Nat.le_of_ble_eq_true rfl) ?_
  intro P hP
  first | refine ft_go mi_k127 1 1 [(0, .ref 0), (1, .int x1)] [.int x1] i a q r (by rfl) ?_ | refine ko_steps mi_in127 1 _ (1, [(0, .ref 0), (1, .int x1)], [.int x1], (0, 0), ks i a q r) (by rfl) ?_
  refine ko_callPI mi_k127.1 (pc := 1) (ls := [(0, .ref 0), (1, .int x1)]) (st := [.int x1]) (h := ks i a q r) (i := (.invokestatic 70, 3, 121, 0, 9, 0, 157)) (mi_k127.2 _ _ (by rfl)) (ft_invS mi_pq121 (by rfl)) (cy := mi_c121) mi_pq121 rfl (kc121 hG.I hG.R x1) (by decide) ?_
  intro vg1 hg1
  rcases hg1 with ⟨eg1, hg1⟩ | ⟨eg1, hg1⟩
  ·
    subst eg1
    have z2 : ((0 : Int) ≤ x1.toInt) ∧ (x1.toInt ≤ 5) := hg1
    first | refine ft_go mi_k127 4 14 [(0, .ref 0), (1, .int x1)] [.int x1, .ref 97] i a q r (by rfl) ?_ | refine ko_steps mi_in127 4 _ (14, [(0, .ref 0), (1, .int x1)], [.int x1, .ref 97], (0, 0), ks i a q r) (by rfl) ?_
    by_cases w3 : x1.toInt = 0
    ·
      refine ko_eq (x1 := (14, [(0, .ref 0), (1, .int x1)], [.int 0, .ref 97], (0, 0), ks i a q r)) (by rw [(kj_eq w3 (by decide) : x1 = 0)]) ?_
      first | refine ft_go mi_k127 2 18 [(0, .ref 0), (1, .int x1)] [.int (i 6656)] i a q r (by rfl) ?_ | refine ko_steps mi_in127 2 _ (18, [(0, .ref 0), (1, .int x1)], [.int (i 6656)], (0, 0), ks i a q r) (by rfl) ?_
      refine ft_if mi_k127 ((i 6656) != 0) 24 21 [(0, .ref 0), (1, .int x1)] [] (by rfl) (fun c => ?_) (fun c => ?_)
      ·
        have c4 : (i 6656).toInt ≠ (0 : Int32).toInt := kd_ne c; clear c
        first | refine ft_go mi_k127 3 29 [(0, .ref 0), (1, .int x1)] [.int x1, .ref 97] i a q r (by rfl) ?_ | refine ko_steps mi_in127 3 _ (29, [(0, .ref 0), (1, .int x1)], [.int x1, .ref 97], (0, 0), ks i a q r) (by rfl) ?_
        by_cases w5 : x1.toInt = 0
        ·
          refine ft_alx mi_k127 (pc := 29) (v := 0) (p := 97) (z := 104) (kj_eq w5 (by decide) : x1 = 0) (by decide +kernel) (by decide +kernel) ?_
          first | refine ft_go mi_k127 1 31 [(0, .ref 0), (1, .int x1)] [.int 0, .ref 104] i a q r (by rfl) ?_ | refine ko_steps mi_in127 1 _ (31, [(0, .ref 0), (1, .int x1)], [.int 0, .ref 104], (0, 0), ks i a q r) (by rfl) ?_
          refine ko_callPI mi_k127.1 (pc := 31) (ls := [(0, .ref 0), (1, .int x1)]) (st := [.int 0, .ref 104]) (h := ks i a q r) (i := (.invokevirtual 81, 3, 36, 0, 9, 0, 158)) (mi_k127.2 _ _ (by rfl)) (ft_invS mi_pq36 (by rfl)) (cy := mi_c36) mi_pq36 rfl (kc36_104 hG.I hG.R 0) (by decide) ?_
          intro vg6 hg6
          rcases hg6 with ⟨eg6, hg6⟩ | ⟨eg6, hg6⟩
          ·
            subst eg6
            first | refine ft_go mi_k127 3 43 [(0, .ref 0), (1, .int x1)] [.int 0] i a q r (by rfl) ?_ | refine ko_steps mi_in127 3 _ (43, [(0, .ref 0), (1, .int x1)], [.int 0], (0, 0), ks i a q r) (by rfl) ?_
            exact ft_ret mi_k127 (by rfl) (hP 0 (oz989 z2.1 z2.2 kn0))
          ·
            subst eg6
            first | refine ft_go mi_k127 2 43 [(0, .ref 0), (1, .int x1)] [.int (-12)] i a q r (by rfl) ?_ | refine ko_steps mi_in127 2 _ (43, [(0, .ref 0), (1, .int x1)], [.int (-12)], (0, 0), ks i a q r) (by rfl) ?_
            exact ft_ret mi_k127 (by rfl) (hP (-12) (oz990 knm12))
        exact (oz991 w3 w5 z2.1).elim
      ·
        have c14 : (i 6656).toInt = (0 : Int32).toInt := kd_neF c; clear c
        first | refine ft_go mi_k127 1 23 [(0, .ref 0), (1, .int x1)] [.int (-11)] i a q r (by rfl) ?_ | refine ko_steps mi_in127 1 _ (23, [(0, .ref 0), (1, .int x1)], [.int (-11)], (0, 0), ks i a q r) (by rfl) ?_
        exact ft_ret mi_k127 (by rfl) (hP (-11) (oz992 knm11))
    by_cases w15 : x1.toInt = 1
    ·
      refine ko_eq (x1 := (14, [(0, .ref 0), (1, .int x1)], [.int 1, .ref 97], (0, 0), ks i a q r)) (by rw [(kj_eq w15 (by decide) : x1 = 1)]) ?_
      first | refine ft_go mi_k127 2 18 [(0, .ref 0), (1, .int x1)] [.int (i 6784)] i a q r (by rfl) ?_ | refine ko_steps mi_in127 2 _ (18, [(0, .ref 0), (1, .int x1)], [.int (i 6784)], (0, 0), ks i a q r) (by rfl) ?_
      refine ft_if mi_k127 ((i 6784) != 0) 24 21 [(0, .ref 0), (1, .int x1)] [] (by rfl) (fun c => ?_) (fun c => ?_)
      ·
        have c16 : (i 6784).toInt ≠ (0 : Int32).toInt := kd_ne c; clear c
        first | refine ft_go mi_k127 3 29 [(0, .ref 0), (1, .int x1)] [.int x1, .ref 97] i a q r (by rfl) ?_ | refine ko_steps mi_in127 3 _ (29, [(0, .ref 0), (1, .int x1)], [.int x1, .ref 97], (0, 0), ks i a q r) (by rfl) ?_
        by_cases w18 : x1.toInt = 1
        ·
          refine ft_alx mi_k127 (pc := 29) (v := 1) (p := 97) (z := 106) (kj_eq w18 (by decide) : x1 = 1) (by decide +kernel) (by decide +kernel) ?_
          first | refine ft_go mi_k127 1 31 [(0, .ref 0), (1, .int x1)] [.int 0, .ref 106] i a q r (by rfl) ?_ | refine ko_steps mi_in127 1 _ (31, [(0, .ref 0), (1, .int x1)], [.int 0, .ref 106], (0, 0), ks i a q r) (by rfl) ?_
          refine ko_callPI mi_k127.1 (pc := 31) (ls := [(0, .ref 0), (1, .int x1)]) (st := [.int 0, .ref 106]) (h := ks i a q r) (i := (.invokevirtual 81, 3, 36, 0, 9, 0, 158)) (mi_k127.2 _ _ (by rfl)) (ft_invS mi_pq36 (by rfl)) (cy := mi_c36) mi_pq36 rfl (kc36_106 hG.I hG.R 0) (by decide) ?_
          intro vg19 hg19
          rcases hg19 with ⟨eg19, hg19⟩ | ⟨eg19, hg19⟩
          ·
            subst eg19
            first | refine ft_go mi_k127 3 43 [(0, .ref 0), (1, .int x1)] [.int 0] i a q r (by rfl) ?_ | refine ko_steps mi_in127 3 _ (43, [(0, .ref 0), (1, .int x1)], [.int 0], (0, 0), ks i a q r) (by rfl) ?_
            exact ft_ret mi_k127 (by rfl) (hP 0 (oz994 w15 z2.2 kn0))
          ·
            subst eg19
            first | refine ft_go mi_k127 2 43 [(0, .ref 0), (1, .int x1)] [.int (-12)] i a q r (by rfl) ?_ | refine ko_steps mi_in127 2 _ (43, [(0, .ref 0), (1, .int x1)], [.int (-12)], (0, 0), ks i a q r) (by rfl) ?_
            exact ft_ret mi_k127 (by rfl) (hP (-12) (oz990 knm12))
        exact (oz995 w15 w18).elim
      ·
        have c26 : (i 6784).toInt = (0 : Int32).toInt := kd_neF c; clear c
        first | refine ft_go mi_k127 1 23 [(0, .ref 0), (1, .int x1)] [.int (-11)] i a q r (by rfl) ?_ | refine ko_steps mi_in127 1 _ (23, [(0, .ref 0), (1, .int x1)], [.int (-11)], (0, 0), ks i a q r) (by rfl) ?_
        exact ft_ret mi_k127 (by rfl) (hP (-11) (oz992 knm11))
    by_cases w27 : x1.toInt = 2
    ·
      refine ko_eq (x1 := (14, [(0, .ref 0), (1, .int x1)], [.int 2, .ref 97], (0, 0), ks i a q r)) (by rw [(kj_eq w27 (by decide) : x1 = 2)]) ?_
      first | refine ft_go mi_k127 2 18 [(0, .ref 0), (1, .int x1)] [.int (i 6912)] i a q r (by rfl) ?_ | refine ko_steps mi_in127 2 _ (18, [(0, .ref 0), (1, .int x1)], [.int (i 6912)], (0, 0), ks i a q r) (by rfl) ?_
      refine ft_if mi_k127 ((i 6912) != 0) 24 21 [(0, .ref 0), (1, .int x1)] [] (by rfl) (fun c => ?_) (fun c => ?_)
      ·
        have c28 : (i 6912).toInt ≠ (0 : Int32).toInt := kd_ne c; clear c
        first | refine ft_go mi_k127 3 29 [(0, .ref 0), (1, .int x1)] [.int x1, .ref 97] i a q r (by rfl) ?_ | refine ko_steps mi_in127 3 _ (29, [(0, .ref 0), (1, .int x1)], [.int x1, .ref 97], (0, 0), ks i a q r) (by rfl) ?_
        by_cases w31 : x1.toInt = 2
        ·
          refine ft_alx mi_k127 (pc := 29) (v := 2) (p := 97) (z := 108) (kj_eq w31 (by decide) : x1 = 2) (by decide +kernel) (by decide +kernel) ?_
          first | refine ft_go mi_k127 1 31 [(0, .ref 0), (1, .int x1)] [.int 0, .ref 108] i a q r (by rfl) ?_ | refine ko_steps mi_in127 1 _ (31, [(0, .ref 0), (1, .int x1)], [.int 0, .ref 108], (0, 0), ks i a q r) (by rfl) ?_
          refine ko_callPI mi_k127.1 (pc := 31) (ls := [(0, .ref 0), (1, .int x1)]) (st := [.int 0, .ref 108]) (h := ks i a q r) (i := (.invokevirtual 81, 3, 36, 0, 9, 0, 158)) (mi_k127.2 _ _ (by rfl)) (ft_invS mi_pq36 (by rfl)) (cy := mi_c36) mi_pq36 rfl (kc36_108 hG.I hG.R 0) (by decide) ?_
          intro vg32 hg32
          rcases hg32 with ⟨eg32, hg32⟩ | ⟨eg32, hg32⟩
          ·
            subst eg32
            first | refine ft_go mi_k127 3 43 [(0, .ref 0), (1, .int x1)] [.int 0] i a q r (by rfl) ?_ | refine ko_steps mi_in127 3 _ (43, [(0, .ref 0), (1, .int x1)], [.int 0], (0, 0), ks i a q r) (by rfl) ?_
            exact ft_ret mi_k127 (by rfl) (hP 0 (oz997 w27 z2.2 kn0))
          ·
            subst eg32
            first | refine ft_go mi_k127 2 43 [(0, .ref 0), (1, .int x1)] [.int (-12)] i a q r (by rfl) ?_ | refine ko_steps mi_in127 2 _ (43, [(0, .ref 0), (1, .int x1)], [.int (-12)], (0, 0), ks i a q r) (by rfl) ?_
            exact ft_ret mi_k127 (by rfl) (hP (-12) (oz990 knm12))
        exact (oz998 w27 w31).elim
      ·
        have c38 : (i 6912).toInt = (0 : Int32).toInt := kd_neF c; clear c
        first | refine ft_go mi_k127 1 23 [(0, .ref 0), (1, .int x1)] [.int (-11)] i a q r (by rfl) ?_ | refine ko_steps mi_in127 1 _ (23, [(0, .ref 0), (1, .int x1)], [.int (-11)], (0, 0), ks i a q r) (by rfl) ?_
        exact ft_ret mi_k127 (by rfl) (hP (-11) (oz992 knm11))
    by_cases w39 : x1.toInt = 3
    ·
      refine ko_eq (x1 := (14, [(0, .ref 0), (1, .int x1)], [.int 3, .ref 97], (0, 0), ks i a q r)) (by rw [(kj_eq w39 (by decide) : x1 = 3)]) ?_
      first | refine ft_go mi_k127 2 18 [(0, .ref 0), (1, .int x1)] [.int (i 7040)] i a q r (by rfl) ?_ | refine ko_steps mi_in127 2 _ (18, [(0, .ref 0), (1, .int x1)], [.int (i 7040)], (0, 0), ks i a q r) (by rfl) ?_
      refine ft_if mi_k127 ((i 7040) != 0) 24 21 [(0, .ref 0), (1, .int x1)] [] (by rfl) (fun c => ?_) (fun c => ?_)
      ·
        have c40 : (i 7040).toInt ≠ (0 : Int32).toInt := kd_ne c; clear c
        first | refine ft_go mi_k127 3 29 [(0, .ref 0), (1, .int x1)] [.int x1, .ref 97] i a q r (by rfl) ?_ | refine ko_steps mi_in127 3 _ (29, [(0, .ref 0), (1, .int x1)], [.int x1, .ref 97], (0, 0), ks i a q r) (by rfl) ?_
        by_cases w44 : x1.toInt = 3
        ·
          refine ft_alx mi_k127 (pc := 29) (v := 3) (p := 97) (z := 110) (kj_eq w44 (by decide) : x1 = 3) (by decide +kernel) (by decide +kernel) ?_
          first | refine ft_go mi_k127 1 31 [(0, .ref 0), (1, .int x1)] [.int 0, .ref 110] i a q r (by rfl) ?_ | refine ko_steps mi_in127 1 _ (31, [(0, .ref 0), (1, .int x1)], [.int 0, .ref 110], (0, 0), ks i a q r) (by rfl) ?_
          refine ko_callPI mi_k127.1 (pc := 31) (ls := [(0, .ref 0), (1, .int x1)]) (st := [.int 0, .ref 110]) (h := ks i a q r) (i := (.invokevirtual 81, 3, 36, 0, 9, 0, 158)) (mi_k127.2 _ _ (by rfl)) (ft_invS mi_pq36 (by rfl)) (cy := mi_c36) mi_pq36 rfl (kc36_110 hG.I hG.R 0) (by decide) ?_
          intro vg45 hg45
          rcases hg45 with ⟨eg45, hg45⟩ | ⟨eg45, hg45⟩
          ·
            subst eg45
            first | refine ft_go mi_k127 3 43 [(0, .ref 0), (1, .int x1)] [.int 0] i a q r (by rfl) ?_ | refine ko_steps mi_in127 3 _ (43, [(0, .ref 0), (1, .int x1)], [.int 0], (0, 0), ks i a q r) (by rfl) ?_
            exact ft_ret mi_k127 (by rfl) (hP 0 (oz1000 w39 z2.2 kn0))
          ·
            subst eg45
            first | refine ft_go mi_k127 2 43 [(0, .ref 0), (1, .int x1)] [.int (-12)] i a q r (by rfl) ?_ | refine ko_steps mi_in127 2 _ (43, [(0, .ref 0), (1, .int x1)], [.int (-12)], (0, 0), ks i a q r) (by rfl) ?_
            exact ft_ret mi_k127 (by rfl) (hP (-12) (oz990 knm12))
        exact (oz1001 w39 w44).elim
      ·
        have c50 : (i 7040).toInt = (0 : Int32).toInt := kd_neF c; clear c
        first | refine ft_go mi_k127 1 23 [(0, .ref 0), (1, .int x1)] [.int (-11)] i a q r (by rfl) ?_ | refine ko_steps mi_in127 1 _ (23, [(0, .ref 0), (1, .int x1)], [.int (-11)], (0, 0), ks i a q r) (by rfl) ?_
        exact ft_ret mi_k127 (by rfl) (hP (-11) (oz992 knm11))
    by_cases w51 : x1.toInt = 4
    ·
      refine ko_eq (x1 := (14, [(0, .ref 0), (1, .int x1)], [.int 4, .ref 97], (0, 0), ks i a q r)) (by rw [(kj_eq w51 (by decide) : x1 = 4)]) ?_
      first | refine ft_go mi_k127 2 18 [(0, .ref 0), (1, .int x1)] [.int (i 7168)] i a q r (by rfl) ?_ | refine ko_steps mi_in127 2 _ (18, [(0, .ref 0), (1, .int x1)], [.int (i 7168)], (0, 0), ks i a q r) (by rfl) ?_
      refine ft_if mi_k127 ((i 7168) != 0) 24 21 [(0, .ref 0), (1, .int x1)] [] (by rfl) (fun c => ?_) (fun c => ?_)
      ·
        have c52 : (i 7168).toInt ≠ (0 : Int32).toInt := kd_ne c; clear c
        first | refine ft_go mi_k127 3 29 [(0, .ref 0), (1, .int x1)] [.int x1, .ref 97] i a q r (by rfl) ?_ | refine ko_steps mi_in127 3 _ (29, [(0, .ref 0), (1, .int x1)], [.int x1, .ref 97], (0, 0), ks i a q r) (by rfl) ?_
        by_cases w57 : x1.toInt = 4
        ·
          refine ft_alx mi_k127 (pc := 29) (v := 4) (p := 97) (z := 112) (kj_eq w57 (by decide) : x1 = 4) (by decide +kernel) (by decide +kernel) ?_
          first | refine ft_go mi_k127 1 31 [(0, .ref 0), (1, .int x1)] [.int 0, .ref 112] i a q r (by rfl) ?_ | refine ko_steps mi_in127 1 _ (31, [(0, .ref 0), (1, .int x1)], [.int 0, .ref 112], (0, 0), ks i a q r) (by rfl) ?_
          refine ko_callPI mi_k127.1 (pc := 31) (ls := [(0, .ref 0), (1, .int x1)]) (st := [.int 0, .ref 112]) (h := ks i a q r) (i := (.invokevirtual 81, 3, 36, 0, 9, 0, 158)) (mi_k127.2 _ _ (by rfl)) (ft_invS mi_pq36 (by rfl)) (cy := mi_c36) mi_pq36 rfl (kc36_112 hG.I hG.R 0) (by decide) ?_
          intro vg58 hg58
          rcases hg58 with ⟨eg58, hg58⟩ | ⟨eg58, hg58⟩
          ·
            subst eg58
            first | refine ft_go mi_k127 3 43 [(0, .ref 0), (1, .int x1)] [.int 0] i a q r (by rfl) ?_ | refine ko_steps mi_in127 3 _ (43, [(0, .ref 0), (1, .int x1)], [.int 0], (0, 0), ks i a q r) (by rfl) ?_
            exact ft_ret mi_k127 (by rfl) (hP 0 (oz1003 w51 z2.2 kn0))
          ·
            subst eg58
            first | refine ft_go mi_k127 2 43 [(0, .ref 0), (1, .int x1)] [.int (-12)] i a q r (by rfl) ?_ | refine ko_steps mi_in127 2 _ (43, [(0, .ref 0), (1, .int x1)], [.int (-12)], (0, 0), ks i a q r) (by rfl) ?_
            exact ft_ret mi_k127 (by rfl) (hP (-12) (oz990 knm12))
        exact (oz1004 w51 w57).elim
      ·
        have c62 : (i 7168).toInt = (0 : Int32).toInt := kd_neF c; clear c
        first | refine ft_go mi_k127 1 23 [(0, .ref 0), (1, .int x1)] [.int (-11)] i a q r (by rfl) ?_ | refine ko_steps mi_in127 1 _ (23, [(0, .ref 0), (1, .int x1)], [.int (-11)], (0, 0), ks i a q r) (by rfl) ?_
        exact ft_ret mi_k127 (by rfl) (hP (-11) (oz992 knm11))
    by_cases w63 : x1.toInt = 5
    ·
      refine ko_eq (x1 := (14, [(0, .ref 0), (1, .int x1)], [.int 5, .ref 97], (0, 0), ks i a q r)) (by rw [(kj_eq w63 (by decide) : x1 = 5)]) ?_
      first | refine ft_go mi_k127 2 18 [(0, .ref 0), (1, .int x1)] [.int (i 7296)] i a q r (by rfl) ?_ | refine ko_steps mi_in127 2 _ (18, [(0, .ref 0), (1, .int x1)], [.int (i 7296)], (0, 0), ks i a q r) (by rfl) ?_
      refine ft_if mi_k127 ((i 7296) != 0) 24 21 [(0, .ref 0), (1, .int x1)] [] (by rfl) (fun c => ?_) (fun c => ?_)
      ·
        have c64 : (i 7296).toInt ≠ (0 : Int32).toInt := kd_ne c; clear c
        first | refine ft_go mi_k127 3 29 [(0, .ref 0), (1, .int x1)] [.int x1, .ref 97] i a q r (by rfl) ?_ | refine ko_steps mi_in127 3 _ (29, [(0, .ref 0), (1, .int x1)], [.int x1, .ref 97], (0, 0), ks i a q r) (by rfl) ?_
        by_cases w70 : x1.toInt = 5
        ·
          refine ft_alx mi_k127 (pc := 29) (v := 5) (p := 97) (z := 114) (kj_eq w70 (by decide) : x1 = 5) (by decide +kernel) (by decide +kernel) ?_
          first | refine ft_go mi_k127 1 31 [(0, .ref 0), (1, .int x1)] [.int 0, .ref 114] i a q r (by rfl) ?_ | refine ko_steps mi_in127 1 _ (31, [(0, .ref 0), (1, .int x1)], [.int 0, .ref 114], (0, 0), ks i a q r) (by rfl) ?_
          refine ko_callPI mi_k127.1 (pc := 31) (ls := [(0, .ref 0), (1, .int x1)]) (st := [.int 0, .ref 114]) (h := ks i a q r) (i := (.invokevirtual 81, 3, 36, 0, 9, 0, 158)) (mi_k127.2 _ _ (by rfl)) (ft_invS mi_pq36 (by rfl)) (cy := mi_c36) mi_pq36 rfl (kc36_114 hG.I hG.R 0) (by decide) ?_
          intro vg71 hg71
          rcases hg71 with ⟨eg71, hg71⟩ | ⟨eg71, hg71⟩
          ·
            subst eg71
            first | refine ft_go mi_k127 3 43 [(0, .ref 0), (1, .int x1)] [.int 0] i a q r (by rfl) ?_ | refine ko_steps mi_in127 3 _ (43, [(0, .ref 0), (1, .int x1)], [.int 0], (0, 0), ks i a q r) (by rfl) ?_
            exact ft_ret mi_k127 (by rfl) (hP 0 (oz1006 w63 z2.2 kn0))
          ·
            subst eg71
            first | refine ft_go mi_k127 2 43 [(0, .ref 0), (1, .int x1)] [.int (-12)] i a q r (by rfl) ?_ | refine ko_steps mi_in127 2 _ (43, [(0, .ref 0), (1, .int x1)], [.int (-12)], (0, 0), ks i a q r) (by rfl) ?_
            exact ft_ret mi_k127 (by rfl) (hP (-12) (oz990 knm12))
        exact (oz1007 w63 w70 z2.2).elim
      ·
        have c74 : (i 7296).toInt = (0 : Int32).toInt := kd_neF c; clear c
        first | refine ft_go mi_k127 1 23 [(0, .ref 0), (1, .int x1)] [.int (-11)] i a q r (by rfl) ?_ | refine ko_steps mi_in127 1 _ (23, [(0, .ref 0), (1, .int x1)], [.int (-11)], (0, 0), ks i a q r) (by rfl) ?_
        exact ft_ret mi_k127 (by rfl) (hP (-11) (oz992 knm11))
    exact (oz1008 w15 w27 w3 w39 w51 w63 z2.1 z2.2).elim
  ·
    subst eg1
    first | refine ft_go mi_k127 2 8 [(0, .ref 0), (1, .int x1)] [.int (-1)] i a q r (by rfl) ?_ | refine ko_steps mi_in127 2 _ (8, [(0, .ref 0), (1, .int x1)], [.int (-1)], (0, 0), ks i a q r) (by rfl) ?_
    exact ft_ret mi_k127 (by rfl) (hP (-1) (oz1009 knm1))
def w58_49_104 : kW := ([3138], [74], [], [])
def w58_49_104_L7 : kW := ([3138], [74], [], [])
set_option maxRecDepth 100000 in
theorem kc58_49_104 {i : Nat → Int32} {a : Nat → List Int32} {q : Nat → List Int64} {r : Nat → Nat} (hI : kI i a q) (hr : kr r) (x2 : Int32) : km 1 58 [.ref 49, .ref 104, .int x2] (ks i a q r) (kVN w58_49_104 i a q r (fun i1 a1 q1 r1 => True)) := by
  have hG := kG_self w58_49_104 hI hr
  refine km_ofN (q := (mi_h58, mi_c58)) rfl (by decide) (Nat.le_of_ble_eq_true rfl) ?_
  intro P hP
  have hJ1 := kG_i hG 3138 rfl (v := 0) ⟨(oz46 kn0), (oz220 kn0)⟩
  refine ft_go mi_k58 5 7 [(3, .int 0), (0, .ref 49), (1, .ref 104), (2, .int x2)] [] (ku i 3138 0) a q r (by rfl) ?_
  have lp2 : ∀ (nz : Nat) (i2 : Nat → Int32) (a2 : Nat → List Int32) (q2 : Nat → List Int64) (r2 : Nat → Nat) (l3_2 : Int32), kG w58_49_104_L7 (ku i 3138 0) a q r i2 a2 q2 r2 → (0 : Int) ≤ l3_2.toInt → ((20 - l3_2.toInt)).toNat < nz → ko 1 (mi_h58, mi_c58) P (7, [(3, .int l3_2), (0, .ref 49), (1, .ref 104), (2, .int x2)], [], (0, 0), ks i2 a2 q2 r2) := by
    intro nz
    induction nz with
    | zero =>
      intro _ _ _ _ _ _ _ hm
      exact absurd hm (Nat.not_lt_zero _)
    | succ nz ih2 =>
      intro i2 a2 q2 r2 l3_2 hL2 p2_0 hm2
      refine ft_go mi_k58 3 12 [(3, .int l3_2), (0, .ref 49), (1, .ref 104), (2, .int x2)] [.int (i2 6659), .int l3_2] i2 a2 q2 r2 (by rfl) ?_
      refine ft_if mi_k58 (decide ((i2 6659) ≤ l3_2)) 63 15 [(3, .int l3_2), (0, .ref 49), (1, .ref 104), (2, .int x2)] [] (by rfl) (fun c => ?_) (fun c => ?_)
      ·
        have c3 : (i2 6659).toInt ≤ l3_2.toInt := kd_le c; clear c
        have hG4 := kG_call hJ1 hL2 (by decide +kernel)
        exact ft_ret mi_k58 (by rfl) (hP  _ _ _ _ hG4 trivial)
      ·
        have c5 : l3_2.toInt < (i2 6659).toInt := kd_leF c; clear c
        refine ft_go mi_k58 2 18 [(3, .int l3_2), (0, .ref 49), (1, .ref 104), (2, .int x2)] [.int 20, .int l3_2] i2 a2 q2 r2 (by rfl) ?_
        refine ft_if mi_k58 (decide (20 ≤ l3_2)) 63 21 [(3, .int l3_2), (0, .ref 49), (1, .ref 104), (2, .int x2)] [] (by rfl) (fun c => ?_) (fun c => ?_)
        ·
          have c6 : (20 : Int32).toInt ≤ l3_2.toInt := kd_le c; clear c
          have hG7 := kG_call hJ1 hL2 (by decide +kernel)
          exact ft_ret mi_k58 (by rfl) (hP  _ _ _ _ hG7 trivial)
        ·
          have c8 : l3_2.toInt < (20 : Int32).toInt := kd_leF c; clear c
          refine ft_go mi_k58 3 26 [(3, .int l3_2), (0, .ref 49), (1, .ref 104), (2, .int x2)] [.int l3_2, .ref 105] i2 a2 q2 r2 (by rfl) ?_
          refine ko_lald2 mi_k58.1 (l := q2 105) (n := 60) (c := 60) (ax := (0, 0, 0, 0, 0)) (mi_k58.2 _ _ (by rfl)) (by rfl) (by rfl) (hL2.I.2.2.2 105) rfl (oz3 p2_0) (oz1012 c8 kn20) ?_
          refine ft_go mi_k58 3 32 [(4, .int (((q2 105).getD l3_2.toNatClampNeg 0).toInt32)), (3, .int l3_2), (0, .ref 49), (1, .ref 104), (2, .int x2)] [.int (((q2 105).getD l3_2.toNatClampNeg 0).toInt32)] i2 a2 q2 r2 (by rfl) ?_
          refine ft_if mi_k58 (decide ((((q2 105).getD l3_2.toNatClampNeg 0).toInt32) < 0)) 41 35 [(4, .int (((q2 105).getD l3_2.toNatClampNeg 0).toInt32)), (3, .int l3_2), (0, .ref 49), (1, .ref 104), (2, .int x2)] [] (by rfl) (fun c => ?_) (fun c => ?_)
          ·
            have c9 : (((q2 105).getD l3_2.toNatClampNeg 0).toInt32).toInt < (0 : Int32).toInt := kd_lt c; clear c
            have hG10 := kG_call hJ1 hL2 (by decide +kernel)
            exact ft_ret mi_k58 (by rfl) (hP  _ _ _ _ hG10 trivial)
          ·
            have c11 : (0 : Int32).toInt ≤ (((q2 105).getD l3_2.toNatClampNeg 0).toInt32).toInt := kd_ltF c; clear c
            refine ft_go mi_k58 2 38 [(4, .int (((q2 105).getD l3_2.toNatClampNeg 0).toInt32)), (3, .int l3_2), (0, .ref 49), (1, .ref 104), (2, .int x2)] [.int x2, .int (((q2 105).getD l3_2.toNatClampNeg 0).toInt32)] i2 a2 q2 r2 (by rfl) ?_
            refine ft_if mi_k58 (decide ((((q2 105).getD l3_2.toNatClampNeg 0).toInt32) < x2)) 42 41 [(4, .int (((q2 105).getD l3_2.toNatClampNeg 0).toInt32)), (3, .int l3_2), (0, .ref 49), (1, .ref 104), (2, .int x2)] [] (by rfl) (fun c => ?_) (fun c => ?_)
            ·
              have c12 : (((q2 105).getD l3_2.toNatClampNeg 0).toInt32).toInt < x2.toInt := kd_lt c; clear c
              refine ft_go mi_k58 4 49 [(4, .int (((q2 105).getD l3_2.toNatClampNeg 0).toInt32)), (3, .int l3_2), (0, .ref 49), (1, .ref 104), (2, .int x2)] [.int (((q2 105).getD l3_2.toNatClampNeg 0).toInt32), .int l3_2, .ref 74] i2 a2 q2 r2 (by rfl) ?_
              refine ko_iast3 mi_k58.1 (n := 20) (c := 20) (ax := (0, 0, 0, 0, 0)) (mi_k58.2 _ _ (by rfl)) (by rfl) (ksG74 _ _ _ _) (ksA74 _ _ _ _) (hL2.I.2.1 74) rfl (oz3 p2_0) (oz1013 c8 kn20) ?_
              intro a13 ea13 fa13
              have hJ13 := kG_a3 hL2 74 rfl ea13 fa13 (kd_bd _)
              have s14 : (l3_2 + 1).toInt = l3_2.toInt + (1 : Int32).toInt := kd_add (oz12 p2_0 kn1) (oz1014 c8 kn20 kn1)
              have hJ15 := kG_i hJ13 3138 rfl (v := (l3_2 + 1)) ⟨(oz14 p2_0 s14 kn1), (oz224 c8 s14 kn20 kn1)⟩
              refine ft_go mi_k58 7 7 [(3, .int (l3_2 + 1)), (4, .int (((q2 105).getD l3_2.toNatClampNeg 0).toInt32)), (0, .ref 49), (1, .ref 104), (2, .int x2)] [] (ku i2 3138 (l3_2 + 1)) a13 q2 r2 (by rfl) ?_
              refine ko_perm [(3, .int (l3_2 + 1)), (0, .ref 49), (1, .ref 104), (2, .int x2)] (List.forall_mem_cons.mpr ⟨(List.Mem.head _), (List.forall_mem_cons.mpr ⟨(List.Mem.tail _ (List.Mem.tail _ (List.Mem.head _))), (List.forall_mem_cons.mpr ⟨(List.Mem.tail _ (List.Mem.tail _ (List.Mem.tail _ (List.Mem.head _)))), (List.forall_mem_cons.mpr ⟨(List.Mem.tail _ (List.Mem.tail _ (List.Mem.tail _ (List.Mem.tail _ (List.Mem.head _))))), (fun _ h => absurd h List.not_mem_nil)⟩)⟩)⟩)⟩) ?_
              exact ih2 _ _ _ _ _ hJ15 (oz14 p2_0 s14 kn1) (kj_meas (oz218 s14 kn1) (oz225 c8 kn20) hm2)
            ·
              have c16 : x2.toInt ≤ (((q2 105).getD l3_2.toNatClampNeg 0).toInt32).toInt := kd_ltF c; clear c
              have hG17 := kG_call hJ1 hL2 (by decide +kernel)
              exact ft_ret mi_k58 (by rfl) (hP  _ _ _ _ hG17 trivial)
  exact lp2 _ _ _ _ _ _ (kG_self _ hJ1.I hJ1.R) (oz46 kn0) (Nat.lt_succ_self _)
def w58_49_106 : kW := ([3138], [74], [], [])
def w58_49_106_L7 : kW := ([3138], [74], [], [])
set_option maxRecDepth 100000 in
theorem kc58_49_106 {i : Nat → Int32} {a : Nat → List Int32} {q : Nat → List Int64} {r : Nat → Nat} (hI : kI i a q) (hr : kr r) (x2 : Int32) : km 1 58 [.ref 49, .ref 106, .int x2] (ks i a q r) (kVN w58_49_106 i a q r (fun i1 a1 q1 r1 => True)) := by
  have hG := kG_self w58_49_106 hI hr
  refine km_ofN (q := (mi_h58, mi_c58)) rfl (by decide) (Nat.le_of_ble_eq_true rfl) ?_
  intro P hP
  have hJ1 := kG_i hG 3138 rfl (v := 0) ⟨(oz46 kn0), (oz220 kn0)⟩
  refine ft_go mi_k58 5 7 [(3, .int 0), (0, .ref 49), (1, .ref 106), (2, .int x2)] [] (ku i 3138 0) a q r (by rfl) ?_
  have lp2 : ∀ (nz : Nat) (i2 : Nat → Int32) (a2 : Nat → List Int32) (q2 : Nat → List Int64) (r2 : Nat → Nat) (l3_2 : Int32), kG w58_49_106_L7 (ku i 3138 0) a q r i2 a2 q2 r2 → (0 : Int) ≤ l3_2.toInt → ((20 - l3_2.toInt)).toNat < nz → ko 1 (mi_h58, mi_c58) P (7, [(3, .int l3_2), (0, .ref 49), (1, .ref 106), (2, .int x2)], [], (0, 0), ks i2 a2 q2 r2) := by
    intro nz
    induction nz with
    | zero =>
      intro _ _ _ _ _ _ _ hm
      exact absurd hm (Nat.not_lt_zero _)
    | succ nz ih2 =>
      intro i2 a2 q2 r2 l3_2 hL2 p2_0 hm2
      refine ft_go mi_k58 3 12 [(3, .int l3_2), (0, .ref 49), (1, .ref 106), (2, .int x2)] [.int (i2 6787), .int l3_2] i2 a2 q2 r2 (by rfl) ?_
      refine ft_if mi_k58 (decide ((i2 6787) ≤ l3_2)) 63 15 [(3, .int l3_2), (0, .ref 49), (1, .ref 106), (2, .int x2)] [] (by rfl) (fun c => ?_) (fun c => ?_)
      ·
        have c3 : (i2 6787).toInt ≤ l3_2.toInt := kd_le c; clear c
        have hG4 := kG_call hJ1 hL2 (by decide +kernel)
        exact ft_ret mi_k58 (by rfl) (hP  _ _ _ _ hG4 trivial)
      ·
        have c5 : l3_2.toInt < (i2 6787).toInt := kd_leF c; clear c
        refine ft_go mi_k58 2 18 [(3, .int l3_2), (0, .ref 49), (1, .ref 106), (2, .int x2)] [.int 20, .int l3_2] i2 a2 q2 r2 (by rfl) ?_
        refine ft_if mi_k58 (decide (20 ≤ l3_2)) 63 21 [(3, .int l3_2), (0, .ref 49), (1, .ref 106), (2, .int x2)] [] (by rfl) (fun c => ?_) (fun c => ?_)
        ·
          have c6 : (20 : Int32).toInt ≤ l3_2.toInt := kd_le c; clear c
          have hG7 := kG_call hJ1 hL2 (by decide +kernel)
          exact ft_ret mi_k58 (by rfl) (hP  _ _ _ _ hG7 trivial)
        ·
          have c8 : l3_2.toInt < (20 : Int32).toInt := kd_leF c; clear c
          refine ft_go mi_k58 3 26 [(3, .int l3_2), (0, .ref 49), (1, .ref 106), (2, .int x2)] [.int l3_2, .ref 107] i2 a2 q2 r2 (by rfl) ?_
          refine ko_lald2 mi_k58.1 (l := q2 107) (n := 60) (c := 60) (ax := (0, 0, 0, 0, 0)) (mi_k58.2 _ _ (by rfl)) (by rfl) (by rfl) (hL2.I.2.2.2 107) rfl (oz3 p2_0) (oz1012 c8 kn20) ?_
          refine ft_go mi_k58 3 32 [(4, .int (((q2 107).getD l3_2.toNatClampNeg 0).toInt32)), (3, .int l3_2), (0, .ref 49), (1, .ref 106), (2, .int x2)] [.int (((q2 107).getD l3_2.toNatClampNeg 0).toInt32)] i2 a2 q2 r2 (by rfl) ?_
          refine ft_if mi_k58 (decide ((((q2 107).getD l3_2.toNatClampNeg 0).toInt32) < 0)) 41 35 [(4, .int (((q2 107).getD l3_2.toNatClampNeg 0).toInt32)), (3, .int l3_2), (0, .ref 49), (1, .ref 106), (2, .int x2)] [] (by rfl) (fun c => ?_) (fun c => ?_)
          ·
            have c9 : (((q2 107).getD l3_2.toNatClampNeg 0).toInt32).toInt < (0 : Int32).toInt := kd_lt c; clear c
            have hG10 := kG_call hJ1 hL2 (by decide +kernel)
            exact ft_ret mi_k58 (by rfl) (hP  _ _ _ _ hG10 trivial)
          ·
            have c11 : (0 : Int32).toInt ≤ (((q2 107).getD l3_2.toNatClampNeg 0).toInt32).toInt := kd_ltF c; clear c
            refine ft_go mi_k58 2 38 [(4, .int (((q2 107).getD l3_2.toNatClampNeg 0).toInt32)), (3, .int l3_2), (0, .ref 49), (1, .ref 106), (2, .int x2)] [.int x2, .int (((q2 107).getD l3_2.toNatClampNeg 0).toInt32)] i2 a2 q2 r2 (by rfl) ?_
            refine ft_if mi_k58 (decide ((((q2 107).getD l3_2.toNatClampNeg 0).toInt32) < x2)) 42 41 [(4, .int (((q2 107).getD l3_2.toNatClampNeg 0).toInt32)), (3, .int l3_2), (0, .ref 49), (1, .ref 106), (2, .int x2)] [] (by rfl) (fun c => ?_) (fun c => ?_)
            ·
              have c12 : (((q2 107).getD l3_2.toNatClampNeg 0).toInt32).toInt < x2.toInt := kd_lt c; clear c
              refine ft_go mi_k58 4 49 [(4, .int (((q2 107).getD l3_2.toNatClampNeg 0).toInt32)), (3, .int l3_2), (0, .ref 49), (1, .ref 106), (2, .int x2)] [.int (((q2 107).getD l3_2.toNatClampNeg 0).toInt32), .int l3_2, .ref 74] i2 a2 q2 r2 (by rfl) ?_
              refine ko_iast3 mi_k58.1 (n := 20) (c := 20) (ax := (0, 0, 0, 0, 0)) (mi_k58.2 _ _ (by rfl)) (by rfl) (ksG74 _ _ _ _) (ksA74 _ _ _ _) (hL2.I.2.1 74) rfl (oz3 p2_0) (oz1013 c8 kn20) ?_
              intro a13 ea13 fa13
              have hJ13 := kG_a3 hL2 74 rfl ea13 fa13 (kd_bd _)
              have s14 : (l3_2 + 1).toInt = l3_2.toInt + (1 : Int32).toInt := kd_add (oz12 p2_0 kn1) (oz1014 c8 kn20 kn1)
              have hJ15 := kG_i hJ13 3138 rfl (v := (l3_2 + 1)) ⟨(oz14 p2_0 s14 kn1), (oz224 c8 s14 kn20 kn1)⟩
              refine ft_go mi_k58 7 7 [(3, .int (l3_2 + 1)), (4, .int (((q2 107).getD l3_2.toNatClampNeg 0).toInt32)), (0, .ref 49), (1, .ref 106), (2, .int x2)] [] (ku i2 3138 (l3_2 + 1)) a13 q2 r2 (by rfl) ?_
              refine ko_perm [(3, .int (l3_2 + 1)), (0, .ref 49), (1, .ref 106), (2, .int x2)] (List.forall_mem_cons.mpr ⟨(List.Mem.head _), (List.forall_mem_cons.mpr ⟨(List.Mem.tail _ (List.Mem.tail _ (List.Mem.head _))), (List.forall_mem_cons.mpr ⟨(List.Mem.tail _ (List.Mem.tail _ (List.Mem.tail _ (List.Mem.head _)))), (List.forall_mem_cons.mpr ⟨(List.Mem.tail _ (List.Mem.tail _ (List.Mem.tail _ (List.Mem.tail _ (List.Mem.head _))))), (fun _ h => absurd h List.not_mem_nil)⟩)⟩)⟩)⟩) ?_
              exact ih2 _ _ _ _ _ hJ15 (oz14 p2_0 s14 kn1) (kj_meas (oz218 s14 kn1) (oz225 c8 kn20) hm2)
            ·
              have c16 : x2.toInt ≤ (((q2 107).getD l3_2.toNatClampNeg 0).toInt32).toInt := kd_ltF c; clear c
              have hG17 := kG_call hJ1 hL2 (by decide +kernel)
              exact ft_ret mi_k58 (by rfl) (hP  _ _ _ _ hG17 trivial)
  exact lp2 _ _ _ _ _ _ (kG_self _ hJ1.I hJ1.R) (oz46 kn0) (Nat.lt_succ_self _)
def w58_49_108 : kW := ([3138], [74], [], [])
def w58_49_108_L7 : kW := ([3138], [74], [], [])
set_option maxRecDepth 100000 in
theorem kc58_49_108 {i : Nat → Int32} {a : Nat → List Int32} {q : Nat → List Int64} {r : Nat → Nat} (hI : kI i a q) (hr : kr r) (x2 : Int32) : km 1 58 [.ref 49, .ref 108, .int x2] (ks i a q r) (kVN w58_49_108 i a q r (fun i1 a1 q1 r1 => True)) := by
  have hG := kG_self w58_49_108 hI hr
  refine km_ofN (q := (mi_h58, mi_c58)) rfl (by decide) (Nat.le_of_ble_eq_true rfl) ?_
  intro P hP
  have hJ1 := kG_i hG 3138 rfl (v := 0) ⟨(oz46 kn0), (oz220 kn0)⟩
  refine ft_go mi_k58 5 7 [(3, .int 0), (0, .ref 49), (1, .ref 108), (2, .int x2)] [] (ku i 3138 0) a q r (by rfl) ?_
  have lp2 : ∀ (nz : Nat) (i2 : Nat → Int32) (a2 : Nat → List Int32) (q2 : Nat → List Int64) (r2 : Nat → Nat) (l3_2 : Int32), kG w58_49_108_L7 (ku i 3138 0) a q r i2 a2 q2 r2 → (0 : Int) ≤ l3_2.toInt → ((20 - l3_2.toInt)).toNat < nz → ko 1 (mi_h58, mi_c58) P (7, [(3, .int l3_2), (0, .ref 49), (1, .ref 108), (2, .int x2)], [], (0, 0), ks i2 a2 q2 r2) := by
    intro nz
    induction nz with
    | zero =>
      intro _ _ _ _ _ _ _ hm
      exact absurd hm (Nat.not_lt_zero _)
    | succ nz ih2 =>
      intro i2 a2 q2 r2 l3_2 hL2 p2_0 hm2
      refine ft_go mi_k58 3 12 [(3, .int l3_2), (0, .ref 49), (1, .ref 108), (2, .int x2)] [.int (i2 6915), .int l3_2] i2 a2 q2 r2 (by rfl) ?_
      refine ft_if mi_k58 (decide ((i2 6915) ≤ l3_2)) 63 15 [(3, .int l3_2), (0, .ref 49), (1, .ref 108), (2, .int x2)] [] (by rfl) (fun c => ?_) (fun c => ?_)
      ·
        have c3 : (i2 6915).toInt ≤ l3_2.toInt := kd_le c; clear c
        have hG4 := kG_call hJ1 hL2 (by decide +kernel)
        exact ft_ret mi_k58 (by rfl) (hP  _ _ _ _ hG4 trivial)
      ·
        have c5 : l3_2.toInt < (i2 6915).toInt := kd_leF c; clear c
        refine ft_go mi_k58 2 18 [(3, .int l3_2), (0, .ref 49), (1, .ref 108), (2, .int x2)] [.int 20, .int l3_2] i2 a2 q2 r2 (by rfl) ?_
        refine ft_if mi_k58 (decide (20 ≤ l3_2)) 63 21 [(3, .int l3_2), (0, .ref 49), (1, .ref 108), (2, .int x2)] [] (by rfl) (fun c => ?_) (fun c => ?_)
        ·
          have c6 : (20 : Int32).toInt ≤ l3_2.toInt := kd_le c; clear c
          have hG7 := kG_call hJ1 hL2 (by decide +kernel)
          exact ft_ret mi_k58 (by rfl) (hP  _ _ _ _ hG7 trivial)
        ·
          have c8 : l3_2.toInt < (20 : Int32).toInt := kd_leF c; clear c
          refine ft_go mi_k58 3 26 [(3, .int l3_2), (0, .ref 49), (1, .ref 108), (2, .int x2)] [.int l3_2, .ref 109] i2 a2 q2 r2 (by rfl) ?_
          refine ko_lald2 mi_k58.1 (l := q2 109) (n := 60) (c := 60) (ax := (0, 0, 0, 0, 0)) (mi_k58.2 _ _ (by rfl)) (by rfl) (by rfl) (hL2.I.2.2.2 109) rfl (oz3 p2_0) (oz1012 c8 kn20) ?_
          refine ft_go mi_k58 3 32 [(4, .int (((q2 109).getD l3_2.toNatClampNeg 0).toInt32)), (3, .int l3_2), (0, .ref 49), (1, .ref 108), (2, .int x2)] [.int (((q2 109).getD l3_2.toNatClampNeg 0).toInt32)] i2 a2 q2 r2 (by rfl) ?_
          refine ft_if mi_k58 (decide ((((q2 109).getD l3_2.toNatClampNeg 0).toInt32) < 0)) 41 35 [(4, .int (((q2 109).getD l3_2.toNatClampNeg 0).toInt32)), (3, .int l3_2), (0, .ref 49), (1, .ref 108), (2, .int x2)] [] (by rfl) (fun c => ?_) (fun c => ?_)
          ·
            have c9 : (((q2 109).getD l3_2.toNatClampNeg 0).toInt32).toInt < (0 : Int32).toInt := kd_lt c; clear c
            have hG10 := kG_call hJ1 hL2 (by decide +kernel)
            exact ft_ret mi_k58 (by rfl) (hP  _ _ _ _ hG10 trivial)
          ·
            have c11 : (0 : Int32).toInt ≤ (((q2 109).getD l3_2.toNatClampNeg 0).toInt32).toInt := kd_ltF c; clear c
            refine ft_go mi_k58 2 38 [(4, .int (((q2 109).getD l3_2.toNatClampNeg 0).toInt32)), (3, .int l3_2), (0, .ref 49), (1, .ref 108), (2, .int x2)] [.int x2, .int (((q2 109).getD l3_2.toNatClampNeg 0).toInt32)] i2 a2 q2 r2 (by rfl) ?_
            refine ft_if mi_k58 (decide ((((q2 109).getD l3_2.toNatClampNeg 0).toInt32) < x2)) 42 41 [(4, .int (((q2 109).getD l3_2.toNatClampNeg 0).toInt32)), (3, .int l3_2), (0, .ref 49), (1, .ref 108), (2, .int x2)] [] (by rfl) (fun c => ?_) (fun c => ?_)
            ·
              have c12 : (((q2 109).getD l3_2.toNatClampNeg 0).toInt32).toInt < x2.toInt := kd_lt c; clear c
              refine ft_go mi_k58 4 49 [(4, .int (((q2 109).getD l3_2.toNatClampNeg 0).toInt32)), (3, .int l3_2), (0, .ref 49), (1, .ref 108), (2, .int x2)] [.int (((q2 109).getD l3_2.toNatClampNeg 0).toInt32), .int l3_2, .ref 74] i2 a2 q2 r2 (by rfl) ?_
              refine ko_iast3 mi_k58.1 (n := 20) (c := 20) (ax := (0, 0, 0, 0, 0)) (mi_k58.2 _ _ (by rfl)) (by rfl) (ksG74 _ _ _ _) (ksA74 _ _ _ _) (hL2.I.2.1 74) rfl (oz3 p2_0) (oz1013 c8 kn20) ?_
              intro a13 ea13 fa13
              have hJ13 := kG_a3 hL2 74 rfl ea13 fa13 (kd_bd _)
              have s14 : (l3_2 + 1).toInt = l3_2.toInt + (1 : Int32).toInt := kd_add (oz12 p2_0 kn1) (oz1014 c8 kn20 kn1)
              have hJ15 := kG_i hJ13 3138 rfl (v := (l3_2 + 1)) ⟨(oz14 p2_0 s14 kn1), (oz224 c8 s14 kn20 kn1)⟩
              refine ft_go mi_k58 7 7 [(3, .int (l3_2 + 1)), (4, .int (((q2 109).getD l3_2.toNatClampNeg 0).toInt32)), (0, .ref 49), (1, .ref 108), (2, .int x2)] [] (ku i2 3138 (l3_2 + 1)) a13 q2 r2 (by rfl) ?_
              refine ko_perm [(3, .int (l3_2 + 1)), (0, .ref 49), (1, .ref 108), (2, .int x2)] (List.forall_mem_cons.mpr ⟨(List.Mem.head _), (List.forall_mem_cons.mpr ⟨(List.Mem.tail _ (List.Mem.tail _ (List.Mem.head _))), (List.forall_mem_cons.mpr ⟨(List.Mem.tail _ (List.Mem.tail _ (List.Mem.tail _ (List.Mem.head _)))), (List.forall_mem_cons.mpr ⟨(List.Mem.tail _ (List.Mem.tail _ (List.Mem.tail _ (List.Mem.tail _ (List.Mem.head _))))), (fun _ h => absurd h List.not_mem_nil)⟩)⟩)⟩)⟩) ?_
              exact ih2 _ _ _ _ _ hJ15 (oz14 p2_0 s14 kn1) (kj_meas (oz218 s14 kn1) (oz225 c8 kn20) hm2)
            ·
              have c16 : x2.toInt ≤ (((q2 109).getD l3_2.toNatClampNeg 0).toInt32).toInt := kd_ltF c; clear c
              have hG17 := kG_call hJ1 hL2 (by decide +kernel)
              exact ft_ret mi_k58 (by rfl) (hP  _ _ _ _ hG17 trivial)
  exact lp2 _ _ _ _ _ _ (kG_self _ hJ1.I hJ1.R) (oz46 kn0) (Nat.lt_succ_self _)
def w58_49_110 : kW := ([3138], [74], [], [])
def w58_49_110_L7 : kW := ([3138], [74], [], [])
set_option maxRecDepth 100000 in
theorem kc58_49_110 {i : Nat → Int32} {a : Nat → List Int32} {q : Nat → List Int64} {r : Nat → Nat} (hI : kI i a q) (hr : kr r) (x2 : Int32) : km 1 58 [.ref 49, .ref 110, .int x2] (ks i a q r) (kVN w58_49_110 i a q r (fun i1 a1 q1 r1 => True)) := by
  have hG := kG_self w58_49_110 hI hr
  refine km_ofN (q := (mi_h58, mi_c58)) rfl (by decide) (Nat.le_of_ble_eq_true rfl) ?_
  intro P hP
  have hJ1 := kG_i hG 3138 rfl (v := 0) ⟨(oz46 kn0), (oz220 kn0)⟩
  refine ft_go mi_k58 5 7 [(3, .int 0), (0, .ref 49), (1, .ref 110), (2, .int x2)] [] (ku i 3138 0) a q r (by rfl) ?_
  have lp2 : ∀ (nz : Nat) (i2 : Nat → Int32) (a2 : Nat → List Int32) (q2 : Nat → List Int64) (r2 : Nat → Nat) (l3_2 : Int32), kG w58_49_110_L7 (ku i 3138 0) a q r i2 a2 q2 r2 → (0 : Int) ≤ l3_2.toInt → ((20 - l3_2.toInt)).toNat < nz → ko 1 (mi_h58, mi_c58) P (7, [(3, .int l3_2), (0, .ref 49), (1, .ref 110), (2, .int x2)], [], (0, 0), ks i2 a2 q2 r2) := by
    intro nz
    induction nz with
    | zero =>
      intro _ _ _ _ _ _ _ hm
      exact absurd hm (Nat.not_lt_zero _)
    | succ nz ih2 =>
      intro i2 a2 q2 r2 l3_2 hL2 p2_0 hm2
      refine ft_go mi_k58 3 12 [(3, .int l3_2), (0, .ref 49), (1, .ref 110), (2, .int x2)] [.int (i2 7043), .int l3_2] i2 a2 q2 r2 (by rfl) ?_
      refine ft_if mi_k58 (decide ((i2 7043) ≤ l3_2)) 63 15 [(3, .int l3_2), (0, .ref 49), (1, .ref 110), (2, .int x2)] [] (by rfl) (fun c => ?_) (fun c => ?_)
      ·
        have c3 : (i2 7043).toInt ≤ l3_2.toInt := kd_le c; clear c
        have hG4 := kG_call hJ1 hL2 (by decide +kernel)
        exact ft_ret mi_k58 (by rfl) (hP  _ _ _ _ hG4 trivial)
      ·
        have c5 : l3_2.toInt < (i2 7043).toInt := kd_leF c; clear c
        refine ft_go mi_k58 2 18 [(3, .int l3_2), (0, .ref 49), (1, .ref 110), (2, .int x2)] [.int 20, .int l3_2] i2 a2 q2 r2 (by rfl) ?_
        refine ft_if mi_k58 (decide (20 ≤ l3_2)) 63 21 [(3, .int l3_2), (0, .ref 49), (1, .ref 110), (2, .int x2)] [] (by rfl) (fun c => ?_) (fun c => ?_)
        ·
          have c6 : (20 : Int32).toInt ≤ l3_2.toInt := kd_le c; clear c
          have hG7 := kG_call hJ1 hL2 (by decide +kernel)
          exact ft_ret mi_k58 (by rfl) (hP  _ _ _ _ hG7 trivial)
        ·
          have c8 : l3_2.toInt < (20 : Int32).toInt := kd_leF c; clear c
          refine ft_go mi_k58 3 26 [(3, .int l3_2), (0, .ref 49), (1, .ref 110), (2, .int x2)] [.int l3_2, .ref 111] i2 a2 q2 r2 (by rfl) ?_
          refine ko_lald2 mi_k58.1 (l := q2 111) (n := 60) (c := 60) (ax := (0, 0, 0, 0, 0)) (mi_k58.2 _ _ (by rfl)) (by rfl) (by rfl) (hL2.I.2.2.2 111) rfl (oz3 p2_0) (oz1012 c8 kn20) ?_
          refine ft_go mi_k58 3 32 [(4, .int (((q2 111).getD l3_2.toNatClampNeg 0).toInt32)), (3, .int l3_2), (0, .ref 49), (1, .ref 110), (2, .int x2)] [.int (((q2 111).getD l3_2.toNatClampNeg 0).toInt32)] i2 a2 q2 r2 (by rfl) ?_
          refine ft_if mi_k58 (decide ((((q2 111).getD l3_2.toNatClampNeg 0).toInt32) < 0)) 41 35 [(4, .int (((q2 111).getD l3_2.toNatClampNeg 0).toInt32)), (3, .int l3_2), (0, .ref 49), (1, .ref 110), (2, .int x2)] [] (by rfl) (fun c => ?_) (fun c => ?_)
          ·
            have c9 : (((q2 111).getD l3_2.toNatClampNeg 0).toInt32).toInt < (0 : Int32).toInt := kd_lt c; clear c
            have hG10 := kG_call hJ1 hL2 (by decide +kernel)
            exact ft_ret mi_k58 (by rfl) (hP  _ _ _ _ hG10 trivial)
          ·
            have c11 : (0 : Int32).toInt ≤ (((q2 111).getD l3_2.toNatClampNeg 0).toInt32).toInt := kd_ltF c; clear c
            refine ft_go mi_k58 2 38 [(4, .int (((q2 111).getD l3_2.toNatClampNeg 0).toInt32)), (3, .int l3_2), (0, .ref 49), (1, .ref 110), (2, .int x2)] [.int x2, .int (((q2 111).getD l3_2.toNatClampNeg 0).toInt32)] i2 a2 q2 r2 (by rfl) ?_
            refine ft_if mi_k58 (decide ((((q2 111).getD l3_2.toNatClampNeg 0).toInt32) < x2)) 42 41 [(4, .int (((q2 111).getD l3_2.toNatClampNeg 0).toInt32)), (3, .int l3_2), (0, .ref 49), (1, .ref 110), (2, .int x2)] [] (by rfl) (fun c => ?_) (fun c => ?_)
            ·
              have c12 : (((q2 111).getD l3_2.toNatClampNeg 0).toInt32).toInt < x2.toInt := kd_lt c; clear c
              refine ft_go mi_k58 4 49 [(4, .int (((q2 111).getD l3_2.toNatClampNeg 0).toInt32)), (3, .int l3_2), (0, .ref 49), (1, .ref 110), (2, .int x2)] [.int (((q2 111).getD l3_2.toNatClampNeg 0).toInt32), .int l3_2, .ref 74] i2 a2 q2 r2 (by rfl) ?_
              refine ko_iast3 mi_k58.1 (n := 20) (c := 20) (ax := (0, 0, 0, 0, 0)) (mi_k58.2 _ _ (by rfl)) (by rfl) (ksG74 _ _ _ _) (ksA74 _ _ _ _) (hL2.I.2.1 74) rfl (oz3 p2_0) (oz1013 c8 kn20) ?_
              intro a13 ea13 fa13
              have hJ13 := kG_a3 hL2 74 rfl ea13 fa13 (kd_bd _)
              have s14 : (l3_2 + 1).toInt = l3_2.toInt + (1 : Int32).toInt := kd_add (oz12 p2_0 kn1) (oz1014 c8 kn20 kn1)
              have hJ15 := kG_i hJ13 3138 rfl (v := (l3_2 + 1)) ⟨(oz14 p2_0 s14 kn1), (oz224 c8 s14 kn20 kn1)⟩
              refine ft_go mi_k58 7 7 [(3, .int (l3_2 + 1)), (4, .int (((q2 111).getD l3_2.toNatClampNeg 0).toInt32)), (0, .ref 49), (1, .ref 110), (2, .int x2)] [] (ku i2 3138 (l3_2 + 1)) a13 q2 r2 (by rfl) ?_
              refine ko_perm [(3, .int (l3_2 + 1)), (0, .ref 49), (1, .ref 110), (2, .int x2)] (List.forall_mem_cons.mpr ⟨(List.Mem.head _), (List.forall_mem_cons.mpr ⟨(List.Mem.tail _ (List.Mem.tail _ (List.Mem.head _))), (List.forall_mem_cons.mpr ⟨(List.Mem.tail _ (List.Mem.tail _ (List.Mem.tail _ (List.Mem.head _)))), (List.forall_mem_cons.mpr ⟨(List.Mem.tail _ (List.Mem.tail _ (List.Mem.tail _ (List.Mem.tail _ (List.Mem.head _))))), (fun _ h => absurd h List.not_mem_nil)⟩)⟩)⟩)⟩) ?_
              exact ih2 _ _ _ _ _ hJ15 (oz14 p2_0 s14 kn1) (kj_meas (oz218 s14 kn1) (oz225 c8 kn20) hm2)
            ·
              have c16 : x2.toInt ≤ (((q2 111).getD l3_2.toNatClampNeg 0).toInt32).toInt := kd_ltF c; clear c
              have hG17 := kG_call hJ1 hL2 (by decide +kernel)
              exact ft_ret mi_k58 (by rfl) (hP  _ _ _ _ hG17 trivial)
  exact lp2 _ _ _ _ _ _ (kG_self _ hJ1.I hJ1.R) (oz46 kn0) (Nat.lt_succ_self _)
def w58_49_112 : kW := ([3138], [74], [], [])
def w58_49_112_L7 : kW := ([3138], [74], [], [])
set_option maxRecDepth 100000 in
theorem kc58_49_112 {i : Nat → Int32} {a : Nat → List Int32} {q : Nat → List Int64} {r : Nat → Nat} (hI : kI i a q) (hr : kr r) (x2 : Int32) : km 1 58 [.ref 49, .ref 112, .int x2] (ks i a q r) (kVN w58_49_112 i a q r (fun i1 a1 q1 r1 => True)) := by
  have hG := kG_self w58_49_112 hI hr
  refine km_ofN (q := (mi_h58, mi_c58)) rfl (by decide) (Nat.le_of_ble_eq_true rfl) ?_
  intro P hP
  have hJ1 := kG_i hG 3138 rfl (v := 0) ⟨(oz46 kn0), (oz220 kn0)⟩
  refine ft_go mi_k58 5 7 [(3, .int 0), (0, .ref 49), (1, .ref 112), (2, .int x2)] [] (ku i 3138 0) a q r (by rfl) ?_
  have lp2 : ∀ (nz : Nat) (i2 : Nat → Int32) (a2 : Nat → List Int32) (q2 : Nat → List Int64) (r2 : Nat → Nat) (l3_2 : Int32), kG w58_49_112_L7 (ku i 3138 0) a q r i2 a2 q2 r2 → (0 : Int) ≤ l3_2.toInt → ((20 - l3_2.toInt)).toNat < nz → ko 1 (mi_h58, mi_c58) P (7, [(3, .int l3_2), (0, .ref 49), (1, .ref 112), (2, .int x2)], [], (0, 0), ks i2 a2 q2 r2) := by
    intro nz
    induction nz with
    | zero =>
      intro _ _ _ _ _ _ _ hm
      exact absurd hm (Nat.not_lt_zero _)
    | succ nz ih2 =>
      intro i2 a2 q2 r2 l3_2 hL2 p2_0 hm2
      refine ft_go mi_k58 3 12 [(3, .int l3_2), (0, .ref 49), (1, .ref 112), (2, .int x2)] [.int (i2 7171), .int l3_2] i2 a2 q2 r2 (by rfl) ?_
      refine ft_if mi_k58 (decide ((i2 7171) ≤ l3_2)) 63 15 [(3, .int l3_2), (0, .ref 49), (1, .ref 112), (2, .int x2)] [] (by rfl) (fun c => ?_) (fun c => ?_)
      ·
        have c3 : (i2 7171).toInt ≤ l3_2.toInt := kd_le c; clear c
        have hG4 := kG_call hJ1 hL2 (by decide +kernel)
        exact ft_ret mi_k58 (by rfl) (hP  _ _ _ _ hG4 trivial)
      ·
        have c5 : l3_2.toInt < (i2 7171).toInt := kd_leF c; clear c
        refine ft_go mi_k58 2 18 [(3, .int l3_2), (0, .ref 49), (1, .ref 112), (2, .int x2)] [.int 20, .int l3_2] i2 a2 q2 r2 (by rfl) ?_
        refine ft_if mi_k58 (decide (20 ≤ l3_2)) 63 21 [(3, .int l3_2), (0, .ref 49), (1, .ref 112), (2, .int x2)] [] (by rfl) (fun c => ?_) (fun c => ?_)
        ·
          have c6 : (20 : Int32).toInt ≤ l3_2.toInt := kd_le c; clear c
          have hG7 := kG_call hJ1 hL2 (by decide +kernel)
          exact ft_ret mi_k58 (by rfl) (hP  _ _ _ _ hG7 trivial)
        ·
          have c8 : l3_2.toInt < (20 : Int32).toInt := kd_leF c; clear c
          refine ft_go mi_k58 3 26 [(3, .int l3_2), (0, .ref 49), (1, .ref 112), (2, .int x2)] [.int l3_2, .ref 113] i2 a2 q2 r2 (by rfl) ?_
          refine ko_lald2 mi_k58.1 (l := q2 113) (n := 60) (c := 60) (ax := (0, 0, 0, 0, 0)) (mi_k58.2 _ _ (by rfl)) (by rfl) (by rfl) (hL2.I.2.2.2 113) rfl (oz3 p2_0) (oz1012 c8 kn20) ?_
          refine ft_go mi_k58 3 32 [(4, .int (((q2 113).getD l3_2.toNatClampNeg 0).toInt32)), (3, .int l3_2), (0, .ref 49), (1, .ref 112), (2, .int x2)] [.int (((q2 113).getD l3_2.toNatClampNeg 0).toInt32)] i2 a2 q2 r2 (by rfl) ?_
          refine ft_if mi_k58 (decide ((((q2 113).getD l3_2.toNatClampNeg 0).toInt32) < 0)) 41 35 [(4, .int (((q2 113).getD l3_2.toNatClampNeg 0).toInt32)), (3, .int l3_2), (0, .ref 49), (1, .ref 112), (2, .int x2)] [] (by rfl) (fun c => ?_) (fun c => ?_)
          ·
            have c9 : (((q2 113).getD l3_2.toNatClampNeg 0).toInt32).toInt < (0 : Int32).toInt := kd_lt c; clear c
            have hG10 := kG_call hJ1 hL2 (by decide +kernel)
            exact ft_ret mi_k58 (by rfl) (hP  _ _ _ _ hG10 trivial)
          ·
            have c11 : (0 : Int32).toInt ≤ (((q2 113).getD l3_2.toNatClampNeg 0).toInt32).toInt := kd_ltF c; clear c
            refine ft_go mi_k58 2 38 [(4, .int (((q2 113).getD l3_2.toNatClampNeg 0).toInt32)), (3, .int l3_2), (0, .ref 49), (1, .ref 112), (2, .int x2)] [.int x2, .int (((q2 113).getD l3_2.toNatClampNeg 0).toInt32)] i2 a2 q2 r2 (by rfl) ?_
            refine ft_if mi_k58 (decide ((((q2 113).getD l3_2.toNatClampNeg 0).toInt32) < x2)) 42 41 [(4, .int (((q2 113).getD l3_2.toNatClampNeg 0).toInt32)), (3, .int l3_2), (0, .ref 49), (1, .ref 112), (2, .int x2)] [] (by rfl) (fun c => ?_) (fun c => ?_)
            ·
              have c12 : (((q2 113).getD l3_2.toNatClampNeg 0).toInt32).toInt < x2.toInt := kd_lt c; clear c
              refine ft_go mi_k58 4 49 [(4, .int (((q2 113).getD l3_2.toNatClampNeg 0).toInt32)), (3, .int l3_2), (0, .ref 49), (1, .ref 112), (2, .int x2)] [.int (((q2 113).getD l3_2.toNatClampNeg 0).toInt32), .int l3_2, .ref 74] i2 a2 q2 r2 (by rfl) ?_
              refine ko_iast3 mi_k58.1 (n := 20) (c := 20) (ax := (0, 0, 0, 0, 0)) (mi_k58.2 _ _ (by rfl)) (by rfl) (ksG74 _ _ _ _) (ksA74 _ _ _ _) (hL2.I.2.1 74) rfl (oz3 p2_0) (oz1013 c8 kn20) ?_
              intro a13 ea13 fa13
              have hJ13 := kG_a3 hL2 74 rfl ea13 fa13 (kd_bd _)
              have s14 : (l3_2 + 1).toInt = l3_2.toInt + (1 : Int32).toInt := kd_add (oz12 p2_0 kn1) (oz1014 c8 kn20 kn1)
              have hJ15 := kG_i hJ13 3138 rfl (v := (l3_2 + 1)) ⟨(oz14 p2_0 s14 kn1), (oz224 c8 s14 kn20 kn1)⟩
              refine ft_go mi_k58 7 7 [(3, .int (l3_2 + 1)), (4, .int (((q2 113).getD l3_2.toNatClampNeg 0).toInt32)), (0, .ref 49), (1, .ref 112), (2, .int x2)] [] (ku i2 3138 (l3_2 + 1)) a13 q2 r2 (by rfl) ?_
              refine ko_perm [(3, .int (l3_2 + 1)), (0, .ref 49), (1, .ref 112), (2, .int x2)] (List.forall_mem_cons.mpr ⟨(List.Mem.head _), (List.forall_mem_cons.mpr ⟨(List.Mem.tail _ (List.Mem.tail _ (List.Mem.head _))), (List.forall_mem_cons.mpr ⟨(List.Mem.tail _ (List.Mem.tail _ (List.Mem.tail _ (List.Mem.head _)))), (List.forall_mem_cons.mpr ⟨(List.Mem.tail _ (List.Mem.tail _ (List.Mem.tail _ (List.Mem.tail _ (List.Mem.head _))))), (fun _ h => absurd h List.not_mem_nil)⟩)⟩)⟩)⟩) ?_
              exact ih2 _ _ _ _ _ hJ15 (oz14 p2_0 s14 kn1) (kj_meas (oz218 s14 kn1) (oz225 c8 kn20) hm2)
            ·
              have c16 : x2.toInt ≤ (((q2 113).getD l3_2.toNatClampNeg 0).toInt32).toInt := kd_ltF c; clear c
              have hG17 := kG_call hJ1 hL2 (by decide +kernel)
              exact ft_ret mi_k58 (by rfl) (hP  _ _ _ _ hG17 trivial)
  exact lp2 _ _ _ _ _ _ (kG_self _ hJ1.I hJ1.R) (oz46 kn0) (Nat.lt_succ_self _)
def w58_49_114 : kW := ([3138], [74], [], [])
def w58_49_114_L7 : kW := ([3138], [74], [], [])
set_option maxRecDepth 100000 in
theorem kc58_49_114 {i : Nat → Int32} {a : Nat → List Int32} {q : Nat → List Int64} {r : Nat → Nat} (hI : kI i a q) (hr : kr r) (x2 : Int32) : km 1 58 [.ref 49, .ref 114, .int x2] (ks i a q r) (kVN w58_49_114 i a q r (fun i1 a1 q1 r1 => True)) := by
  have hG := kG_self w58_49_114 hI hr
  refine km_ofN (q := (mi_h58, mi_c58)) rfl (by decide) (Nat.le_of_ble_eq_true rfl) ?_
  intro P hP
  have hJ1 := kG_i hG 3138 rfl (v := 0) ⟨(oz46 kn0), (oz220 kn0)⟩
  refine ft_go mi_k58 5 7 [(3, .int 0), (0, .ref 49), (1, .ref 114), (2, .int x2)] [] (ku i 3138 0) a q r (by rfl) ?_
  have lp2 : ∀ (nz : Nat) (i2 : Nat → Int32) (a2 : Nat → List Int32) (q2 : Nat → List Int64) (r2 : Nat → Nat) (l3_2 : Int32), kG w58_49_114_L7 (ku i 3138 0) a q r i2 a2 q2 r2 → (0 : Int) ≤ l3_2.toInt → ((20 - l3_2.toInt)).toNat < nz → ko 1 (mi_h58, mi_c58) P (7, [(3, .int l3_2), (0, .ref 49), (1, .ref 114), (2, .int x2)], [], (0, 0), ks i2 a2 q2 r2) := by
    intro nz
    induction nz with
    | zero =>
      intro _ _ _ _ _ _ _ hm
      exact absurd hm (Nat.not_lt_zero _)
    | succ nz ih2 =>
      intro i2 a2 q2 r2 l3_2 hL2 p2_0 hm2
      refine ft_go mi_k58 3 12 [(3, .int l3_2), (0, .ref 49), (1, .ref 114), (2, .int x2)] [.int (i2 7299), .int l3_2] i2 a2 q2 r2 (by rfl) ?_
      refine ft_if mi_k58 (decide ((i2 7299) ≤ l3_2)) 63 15 [(3, .int l3_2), (0, .ref 49), (1, .ref 114), (2, .int x2)] [] (by rfl) (fun c => ?_) (fun c => ?_)
      ·
        have c3 : (i2 7299).toInt ≤ l3_2.toInt := kd_le c; clear c
        have hG4 := kG_call hJ1 hL2 (by decide +kernel)
        exact ft_ret mi_k58 (by rfl) (hP  _ _ _ _ hG4 trivial)
      ·
        have c5 : l3_2.toInt < (i2 7299).toInt := kd_leF c; clear c
        refine ft_go mi_k58 2 18 [(3, .int l3_2), (0, .ref 49), (1, .ref 114), (2, .int x2)] [.int 20, .int l3_2] i2 a2 q2 r2 (by rfl) ?_
        refine ft_if mi_k58 (decide (20 ≤ l3_2)) 63 21 [(3, .int l3_2), (0, .ref 49), (1, .ref 114), (2, .int x2)] [] (by rfl) (fun c => ?_) (fun c => ?_)
        ·
          have c6 : (20 : Int32).toInt ≤ l3_2.toInt := kd_le c; clear c
          have hG7 := kG_call hJ1 hL2 (by decide +kernel)
          exact ft_ret mi_k58 (by rfl) (hP  _ _ _ _ hG7 trivial)
        ·
          have c8 : l3_2.toInt < (20 : Int32).toInt := kd_leF c; clear c
          refine ft_go mi_k58 3 26 [(3, .int l3_2), (0, .ref 49), (1, .ref 114), (2, .int x2)] [.int l3_2, .ref 115] i2 a2 q2 r2 (by rfl) ?_
          refine ko_lald2 mi_k58.1 (l := q2 115) (n := 60) (c := 60) (ax := (0, 0, 0, 0, 0)) (mi_k58.2 _ _ (by rfl)) (by rfl) (by rfl) (hL2.I.2.2.2 115) rfl (oz3 p2_0) (oz1012 c8 kn20) ?_
          refine ft_go mi_k58 3 32 [(4, .int (((q2 115).getD l3_2.toNatClampNeg 0).toInt32)), (3, .int l3_2), (0, .ref 49), (1, .ref 114), (2, .int x2)] [.int (((q2 115).getD l3_2.toNatClampNeg 0).toInt32)] i2 a2 q2 r2 (by rfl) ?_
          refine ft_if mi_k58 (decide ((((q2 115).getD l3_2.toNatClampNeg 0).toInt32) < 0)) 41 35 [(4, .int (((q2 115).getD l3_2.toNatClampNeg 0).toInt32)), (3, .int l3_2), (0, .ref 49), (1, .ref 114), (2, .int x2)] [] (by rfl) (fun c => ?_) (fun c => ?_)
          ·
            have c9 : (((q2 115).getD l3_2.toNatClampNeg 0).toInt32).toInt < (0 : Int32).toInt := kd_lt c; clear c
            have hG10 := kG_call hJ1 hL2 (by decide +kernel)
            exact ft_ret mi_k58 (by rfl) (hP  _ _ _ _ hG10 trivial)
          ·
            have c11 : (0 : Int32).toInt ≤ (((q2 115).getD l3_2.toNatClampNeg 0).toInt32).toInt := kd_ltF c; clear c
            refine ft_go mi_k58 2 38 [(4, .int (((q2 115).getD l3_2.toNatClampNeg 0).toInt32)), (3, .int l3_2), (0, .ref 49), (1, .ref 114), (2, .int x2)] [.int x2, .int (((q2 115).getD l3_2.toNatClampNeg 0).toInt32)] i2 a2 q2 r2 (by rfl) ?_
            refine ft_if mi_k58 (decide ((((q2 115).getD l3_2.toNatClampNeg 0).toInt32) < x2)) 42 41 [(4, .int (((q2 115).getD l3_2.toNatClampNeg 0).toInt32)), (3, .int l3_2), (0, .ref 49), (1, .ref 114), (2, .int x2)] [] (by rfl) (fun c => ?_) (fun c => ?_)
            ·
              have c12 : (((q2 115).getD l3_2.toNatClampNeg 0).toInt32).toInt < x2.toInt := kd_lt c; clear c
              refine ft_go mi_k58 4 49 [(4, .int (((q2 115).getD l3_2.toNatClampNeg 0).toInt32)), (3, .int l3_2), (0, .ref 49), (1, .ref 114), (2, .int x2)] [.int (((q2 115).getD l3_2.toNatClampNeg 0).toInt32), .int l3_2, .ref 74] i2 a2 q2 r2 (by rfl) ?_
              refine ko_iast3 mi_k58.1 (n := 20) (c := 20) (ax := (0, 0, 0, 0, 0)) (mi_k58.2 _ _ (by rfl)) (by rfl) (ksG74 _ _ _ _) (ksA74 _ _ _ _) (hL2.I.2.1 74) rfl (oz3 p2_0) (oz1013 c8 kn20) ?_
              intro a13 ea13 fa13
              have hJ13 := kG_a3 hL2 74 rfl ea13 fa13 (kd_bd _)
              have s14 : (l3_2 + 1).toInt = l3_2.toInt + (1 : Int32).toInt := kd_add (oz12 p2_0 kn1) (oz1014 c8 kn20 kn1)
              have hJ15 := kG_i hJ13 3138 rfl (v := (l3_2 + 1)) ⟨(oz14 p2_0 s14 kn1), (oz224 c8 s14 kn20 kn1)⟩
              refine ft_go mi_k58 7 7 [(3, .int (l3_2 + 1)), (4, .int (((q2 115).getD l3_2.toNatClampNeg 0).toInt32)), (0, .ref 49), (1, .ref 114), (2, .int x2)] [] (ku i2 3138 (l3_2 + 1)) a13 q2 r2 (by rfl) ?_
              refine ko_perm [(3, .int (l3_2 + 1)), (0, .ref 49), (1, .ref 114), (2, .int x2)] (List.forall_mem_cons.mpr ⟨(List.Mem.head _), (List.forall_mem_cons.mpr ⟨(List.Mem.tail _ (List.Mem.tail _ (List.Mem.head _))), (List.forall_mem_cons.mpr ⟨(List.Mem.tail _ (List.Mem.tail _ (List.Mem.tail _ (List.Mem.head _)))), (List.forall_mem_cons.mpr ⟨(List.Mem.tail _ (List.Mem.tail _ (List.Mem.tail _ (List.Mem.tail _ (List.Mem.head _))))), (fun _ h => absurd h List.not_mem_nil)⟩)⟩)⟩)⟩) ?_
              exact ih2 _ _ _ _ _ hJ15 (oz14 p2_0 s14 kn1) (kj_meas (oz218 s14 kn1) (oz225 c8 kn20) hm2)
            ·
              have c16 : x2.toInt ≤ (((q2 115).getD l3_2.toNatClampNeg 0).toInt32).toInt := kd_ltF c; clear c
              have hG17 := kG_call hJ1 hL2 (by decide +kernel)
              exact ft_ret mi_k58 (by rfl) (hP  _ _ _ _ hG17 trivial)
  exact lp2 _ _ _ _ _ _ (kG_self _ hJ1.I hJ1.R) (oz46 kn0) (Nat.lt_succ_self _)
def w129_0 : kW := ([3138], [74], [], [])
set_option maxRecDepth 100000 in
theorem kc129_0 {i : Nat → Int32} {a : Nat → List Int32} {q : Nat → List Int64} {r : Nat → Nat} (hI : kI i a q) (hr : kr r) (x1 : Int32) : km 7 129 [.ref 0, .int x1] (ks i a q r) (kVI w129_0 i a q r (fun v i1 a1 q1 r1 => (v.toInt < 0) ∨ (v.toInt = 0))) := by
  have hG := kG_self w129_0 hI hr
  refine km_ofI (q := (mi_h129, mi_c129)) rfl (by decide) (Nat.le_of_ble_eq_true rfl) ?_
  intro P hP
  first | refine ft_go mi_k129 2 2 [(0, .ref 0), (1, .int x1)] [.int x1, .ref 0] i a q r (by rfl) ?_ | refine ko_steps mi_in129 2 _ (2, [(0, .ref 0), (1, .int x1)], [.int x1, .ref 0], (0, 0), ks i a q r) (by rfl) ?_
  refine ko_callPI mi_k129.1 (pc := 2) (ls := [(0, .ref 0), (1, .int x1)]) (st := [.int x1, .ref 0]) (h := ks i a q r) (i := (.invokevirtual 217, 3, 127, 0, 9, 0, 209)) (mi_k129.2 _ _ (by rfl)) (ft_invS mi_pq127 (by rfl)) (cy := mi_c127) mi_pq127 rfl (kc127_0 hG.I hG.R x1) (by decide) ?_
  intro vg1 hg1
  have z2 : (vg1.toInt < 0) ∨ ((vg1.toInt = 0) ∧ ((0 : Int) ≤ x1.toInt) ∧ (x1.toInt ≤ 5)) := hg1
  first | refine ft_go mi_k129 2 7 [(2, .int vg1), (0, .ref 0), (1, .int x1)] [.int vg1] i a q r (by rfl) ?_ | refine ko_steps mi_in129 2 _ (7, [(2, .int vg1), (0, .ref 0), (1, .int x1)], [.int vg1], (0, 0), ks i a q r) (by rfl) ?_
  refine ft_if mi_k129 (vg1 != 0) 30 10 [(2, .int vg1), (0, .ref 0), (1, .int x1)] [] (by rfl) (fun c => ?_) (fun c => ?_)
  ·
    have c3 : vg1.toInt ≠ (0 : Int32).toInt := kd_ne c; clear c
    first | refine ft_go mi_k129 1 31 [(2, .int vg1), (0, .ref 0), (1, .int x1)] [.int vg1] i a q r (by rfl) ?_ | refine ko_steps mi_in129 1 _ (31, [(2, .int vg1), (0, .ref 0), (1, .int x1)], [.int vg1], (0, 0), ks i a q r) (by rfl) ?_
    exact ft_ret mi_k129 (by rfl) (hP vg1 _ _ _ _ hG (oz1010 c3 z2 kn0))
  ·
    have c4 : vg1.toInt = (0 : Int32).toInt := kd_neF c; clear c
    first | refine ft_go mi_k129 5 19 [(2, .int vg1), (0, .ref 0), (1, .int x1)] [.int x1, .ref 97, .ref 49] i a q r (by rfl) ?_ | refine ko_steps mi_in129 5 _ (19, [(2, .int vg1), (0, .ref 0), (1, .int x1)], [.int x1, .ref 97, .ref 49], (0, 0), ks i a q r) (by rfl) ?_
    by_cases w5 : x1.toInt = 0
    ·
      refine ko_eq (x1 := (19, [(2, .int vg1), (0, .ref 0), (1, .int x1)], [.int 0, .ref 97, .ref 49], (0, 0), ks i a q r)) (by rw [(kj_eq w5 (by decide) : x1 = 0)]) ?_
      first | refine ft_go mi_k129 4 27 [(2, .int vg1), (0, .ref 0), (1, .int x1)] [.int (i 64), .ref 104, .ref 49] i a q r (by rfl) ?_ | refine ko_steps mi_in129 4 _ (27, [(2, .int vg1), (0, .ref 0), (1, .int x1)], [.int (i 64), .ref 104, .ref 49], (0, 0), ks i a q r) (by rfl) ?_
      refine ko_callN mi_k129.1 (pc := 27) (ls := [(2, .int vg1), (0, .ref 0), (1, .int x1)]) (st := [.int (i 64), .ref 104, .ref 49]) (h := ks i a q r) (i := (.invokevirtual 351, 3, 58, 0, 9, 0, 210)) (mi_k129.2 _ _ (by rfl)) (ft_invS mi_pq58 (by rfl)) (cy := mi_c58) mi_pq58 rfl (kc58_49_104 hG.I hG.R (i 64)) (by decide) ?_
      intro ig6 ag6 qg6 rg6 kg6 hg6
      have hGg6 := kG_call hG kg6 (by decide +kernel)
      first | refine ft_go mi_k129 1 31 [(2, .int vg1), (0, .ref 0), (1, .int x1)] [.int vg1] ig6 ag6 qg6 rg6 (by rfl) ?_ | refine ko_steps mi_in129 1 _ (31, [(2, .int vg1), (0, .ref 0), (1, .int x1)], [.int vg1], (0, 0), ks ig6 ag6 qg6 rg6) (by rfl) ?_
      exact ft_ret mi_k129 (by rfl) (hP vg1 _ _ _ _ hGg6 (oz1015 c4 kn0))
    by_cases w7 : x1.toInt = 1
    ·
      refine ko_eq (x1 := (19, [(2, .int vg1), (0, .ref 0), (1, .int x1)], [.int 1, .ref 97, .ref 49], (0, 0), ks i a q r)) (by rw [(kj_eq w7 (by decide) : x1 = 1)]) ?_
      first | refine ft_go mi_k129 4 27 [(2, .int vg1), (0, .ref 0), (1, .int x1)] [.int (i 64), .ref 106, .ref 49] i a q r (by rfl) ?_ | refine ko_steps mi_in129 4 _ (27, [(2, .int vg1), (0, .ref 0), (1, .int x1)], [.int (i 64), .ref 106, .ref 49], (0, 0), ks i a q r) (by rfl) ?_
      refine ko_callN mi_k129.1 (pc := 27) (ls := [(2, .int vg1), (0, .ref 0), (1, .int x1)]) (st := [.int (i 64), .ref 106, .ref 49]) (h := ks i a q r) (i := (.invokevirtual 351, 3, 58, 0, 9, 0, 210)) (mi_k129.2 _ _ (by rfl)) (ft_invS mi_pq58 (by rfl)) (cy := mi_c58) mi_pq58 rfl (kc58_49_106 hG.I hG.R (i 64)) (by decide) ?_
      intro ig8 ag8 qg8 rg8 kg8 hg8
      have hGg8 := kG_call hG kg8 (by decide +kernel)
      first | refine ft_go mi_k129 1 31 [(2, .int vg1), (0, .ref 0), (1, .int x1)] [.int vg1] ig8 ag8 qg8 rg8 (by rfl) ?_ | refine ko_steps mi_in129 1 _ (31, [(2, .int vg1), (0, .ref 0), (1, .int x1)], [.int vg1], (0, 0), ks ig8 ag8 qg8 rg8) (by rfl) ?_
      exact ft_ret mi_k129 (by rfl) (hP vg1 _ _ _ _ hGg8 (oz1015 c4 kn0))
    by_cases w9 : x1.toInt = 2
    ·
      refine ko_eq (x1 := (19, [(2, .int vg1), (0, .ref 0), (1, .int x1)], [.int 2, .ref 97, .ref 49], (0, 0), ks i a q r)) (by rw [(kj_eq w9 (by decide) : x1 = 2)]) ?_
      first | refine ft_go mi_k129 4 27 [(2, .int vg1), (0, .ref 0), (1, .int x1)] [.int (i 64), .ref 108, .ref 49] i a q r (by rfl) ?_ | refine ko_steps mi_in129 4 _ (27, [(2, .int vg1), (0, .ref 0), (1, .int x1)], [.int (i 64), .ref 108, .ref 49], (0, 0), ks i a q r) (by rfl) ?_
      refine ko_callN mi_k129.1 (pc := 27) (ls := [(2, .int vg1), (0, .ref 0), (1, .int x1)]) (st := [.int (i 64), .ref 108, .ref 49]) (h := ks i a q r) (i := (.invokevirtual 351, 3, 58, 0, 9, 0, 210)) (mi_k129.2 _ _ (by rfl)) (ft_invS mi_pq58 (by rfl)) (cy := mi_c58) mi_pq58 rfl (kc58_49_108 hG.I hG.R (i 64)) (by decide) ?_
      intro ig10 ag10 qg10 rg10 kg10 hg10
      have hGg10 := kG_call hG kg10 (by decide +kernel)
      first | refine ft_go mi_k129 1 31 [(2, .int vg1), (0, .ref 0), (1, .int x1)] [.int vg1] ig10 ag10 qg10 rg10 (by rfl) ?_ | refine ko_steps mi_in129 1 _ (31, [(2, .int vg1), (0, .ref 0), (1, .int x1)], [.int vg1], (0, 0), ks ig10 ag10 qg10 rg10) (by rfl) ?_
      exact ft_ret mi_k129 (by rfl) (hP vg1 _ _ _ _ hGg10 (oz1015 c4 kn0))
    by_cases w11 : x1.toInt = 3
    ·
      refine ko_eq (x1 := (19, [(2, .int vg1), (0, .ref 0), (1, .int x1)], [.int 3, .ref 97, .ref 49], (0, 0), ks i a q r)) (by rw [(kj_eq w11 (by decide) : x1 = 3)]) ?_
      first | refine ft_go mi_k129 4 27 [(2, .int vg1), (0, .ref 0), (1, .int x1)] [.int (i 64), .ref 110, .ref 49] i a q r (by rfl) ?_ | refine ko_steps mi_in129 4 _ (27, [(2, .int vg1), (0, .ref 0), (1, .int x1)], [.int (i 64), .ref 110, .ref 49], (0, 0), ks i a q r) (by rfl) ?_
      refine ko_callN mi_k129.1 (pc := 27) (ls := [(2, .int vg1), (0, .ref 0), (1, .int x1)]) (st := [.int (i 64), .ref 110, .ref 49]) (h := ks i a q r) (i := (.invokevirtual 351, 3, 58, 0, 9, 0, 210)) (mi_k129.2 _ _ (by rfl)) (ft_invS mi_pq58 (by rfl)) (cy := mi_c58) mi_pq58 rfl (kc58_49_110 hG.I hG.R (i 64)) (by decide) ?_
      intro ig12 ag12 qg12 rg12 kg12 hg12
      have hGg12 := kG_call hG kg12 (by decide +kernel)
      first | refine ft_go mi_k129 1 31 [(2, .int vg1), (0, .ref 0), (1, .int x1)] [.int vg1] ig12 ag12 qg12 rg12 (by rfl) ?_ | refine ko_steps mi_in129 1 _ (31, [(2, .int vg1), (0, .ref 0), (1, .int x1)], [.int vg1], (0, 0), ks ig12 ag12 qg12 rg12) (by rfl) ?_
      exact ft_ret mi_k129 (by rfl) (hP vg1 _ _ _ _ hGg12 (oz1015 c4 kn0))
    by_cases w13 : x1.toInt = 4
    ·
      refine ko_eq (x1 := (19, [(2, .int vg1), (0, .ref 0), (1, .int x1)], [.int 4, .ref 97, .ref 49], (0, 0), ks i a q r)) (by rw [(kj_eq w13 (by decide) : x1 = 4)]) ?_
      first | refine ft_go mi_k129 4 27 [(2, .int vg1), (0, .ref 0), (1, .int x1)] [.int (i 64), .ref 112, .ref 49] i a q r (by rfl) ?_ | refine ko_steps mi_in129 4 _ (27, [(2, .int vg1), (0, .ref 0), (1, .int x1)], [.int (i 64), .ref 112, .ref 49], (0, 0), ks i a q r) (by rfl) ?_
      refine ko_callN mi_k129.1 (pc := 27) (ls := [(2, .int vg1), (0, .ref 0), (1, .int x1)]) (st := [.int (i 64), .ref 112, .ref 49]) (h := ks i a q r) (i := (.invokevirtual 351, 3, 58, 0, 9, 0, 210)) (mi_k129.2 _ _ (by rfl)) (ft_invS mi_pq58 (by rfl)) (cy := mi_c58) mi_pq58 rfl (kc58_49_112 hG.I hG.R (i 64)) (by decide) ?_
      intro ig14 ag14 qg14 rg14 kg14 hg14
      have hGg14 := kG_call hG kg14 (by decide +kernel)
      first | refine ft_go mi_k129 1 31 [(2, .int vg1), (0, .ref 0), (1, .int x1)] [.int vg1] ig14 ag14 qg14 rg14 (by rfl) ?_ | refine ko_steps mi_in129 1 _ (31, [(2, .int vg1), (0, .ref 0), (1, .int x1)], [.int vg1], (0, 0), ks ig14 ag14 qg14 rg14) (by rfl) ?_
      exact ft_ret mi_k129 (by rfl) (hP vg1 _ _ _ _ hGg14 (oz1015 c4 kn0))
    by_cases w15 : x1.toInt = 5
    ·
      refine ko_eq (x1 := (19, [(2, .int vg1), (0, .ref 0), (1, .int x1)], [.int 5, .ref 97, .ref 49], (0, 0), ks i a q r)) (by rw [(kj_eq w15 (by decide) : x1 = 5)]) ?_
      first | refine ft_go mi_k129 4 27 [(2, .int vg1), (0, .ref 0), (1, .int x1)] [.int (i 64), .ref 114, .ref 49] i a q r (by rfl) ?_ | refine ko_steps mi_in129 4 _ (27, [(2, .int vg1), (0, .ref 0), (1, .int x1)], [.int (i 64), .ref 114, .ref 49], (0, 0), ks i a q r) (by rfl) ?_
      refine ko_callN mi_k129.1 (pc := 27) (ls := [(2, .int vg1), (0, .ref 0), (1, .int x1)]) (st := [.int (i 64), .ref 114, .ref 49]) (h := ks i a q r) (i := (.invokevirtual 351, 3, 58, 0, 9, 0, 210)) (mi_k129.2 _ _ (by rfl)) (ft_invS mi_pq58 (by rfl)) (cy := mi_c58) mi_pq58 rfl (kc58_49_114 hG.I hG.R (i 64)) (by decide) ?_
      intro ig16 ag16 qg16 rg16 kg16 hg16
      have hGg16 := kG_call hG kg16 (by decide +kernel)
      first | refine ft_go mi_k129 1 31 [(2, .int vg1), (0, .ref 0), (1, .int x1)] [.int vg1] ig16 ag16 qg16 rg16 (by rfl) ?_ | refine ko_steps mi_in129 1 _ (31, [(2, .int vg1), (0, .ref 0), (1, .int x1)], [.int vg1], (0, 0), ks ig16 ag16 qg16 rg16) (by rfl) ?_
      exact ft_ret mi_k129 (by rfl) (hP vg1 _ _ _ _ hGg16 (oz1015 c4 kn0))
    exact (oz1016 c4 w11 w13 w15 w5 w7 w9 z2 kn0).elim
def w3_56_7 : kW := ([3586], [57, 58], [], [])
set_option maxRecDepth 100000 in
theorem kc3_56_7 {i : Nat → Int32} {a : Nat → List Int32} {q : Nat → List Int64} {r : Nat → Nat} (hI : kI i a q) (hr : kr r)  : km 1 3 [.ref 56, .ref 7] (ks i a q r) (kVN w3_56_7 i a q r (fun i1 a1 q1 r1 => True)) := by
  have hG := kG_self w3_56_7 hI hr
  refine km_ofN (q := (mi_h3, mi_c3)) rfl (by decide) (Nat.le_of_ble_eq_true rfl) ?_
  intro P hP
  refine ft_go mi_k3 7 11 [(0, .ref 56), (1, .ref 7)] [.int 5, .int 0, .ref 57, .int 0, .ref 8] i a q r (by rfl) ?_
  refine ko_copyI3 mi_k3.1 (n := 5) (c := 5) (m := 5) (b := 5) (mi_k3.2 _ _ (by rfl)) (by rfl) (by rfl) (by rfl) (ksG8 _ _ _ _) (ksG57 _ _ _ _) (ksA57 _ _ _ _) (hG.I.2.1 8) rfl (hG.I.2.1 57) rfl (oz264 kn5) (oz46 kn0) (oz46 kn0) (oz1018 kn0 kn5) (oz1018 kn0 kn5) ?_
  intro a2 ea2 fa2
  have hJ2 := kG_al3 hG 57 rfl ea2 fa2 (kcpy_len2 (n := 5) (c := 5) (m := 5) (b := 5) (sp := 0) (dp := 0) (n1 := 5) (hG.I.2.1 8) rfl (hG.I.2.1 57) rfl (oz264 kn5) (oz46 kn0) (oz46 kn0) (oz1018 kn0 kn5) (oz1018 kn0 kn5)) (fun _ => kd_bd _)
  refine ft_go mi_k3 7 25 [(0, .ref 56), (1, .ref 7)] [.int 5, .int 0, .ref 58, .int 0, .ref 9] i a2 q r (by rfl) ?_
  refine ko_copyI3 mi_k3.1 (n := 5) (c := 5) (m := 5) (b := 5) (mi_k3.2 _ _ (by rfl)) (by rfl) (by rfl) (by rfl) (ksG9 _ _ _ _) (ksG58 _ _ _ _) (ksA58 _ _ _ _) (hJ2.I.2.1 9) rfl (hJ2.I.2.1 58) rfl (oz264 kn5) (oz46 kn0) (oz46 kn0) (oz1018 kn0 kn5) (oz1018 kn0 kn5) ?_
  intro a4 ea4 fa4
  have hJ4 := kG_al3 hJ2 58 rfl ea4 fa4 (kcpy_len2 (n := 5) (c := 5) (m := 5) (b := 5) (sp := 0) (dp := 0) (n1 := 5) (hJ2.I.2.1 9) rfl (hJ2.I.2.1 58) rfl (oz264 kn5) (oz46 kn0) (oz46 kn0) (oz1018 kn0 kn5) (oz1018 kn0 kn5)) (fun _ => kd_bd _)
  have fi_450 : ((0 : Int) ≤ (i 450).toInt) ∧ ((i 450).toInt ≤ 5) := hJ4.I.1 450
  have hJ5 := kG_i hJ4 3586 rfl (v := (i 450)) ⟨(oz3 fi_450.1), (oz527 fi_450.2)⟩
  refine ft_go mi_k3 4 36 [(0, .ref 56), (1, .ref 7)] [] (ku i 3586 (i 450)) a4 q r (by rfl) ?_
  exact ft_ret mi_k3 (by rfl) (hP  _ _ _ _ hJ5 trivial)
def w33_50_1 : kW := ([3208, 3209, 3586], [51, 55, 57, 58, 63], [], [])
set_option maxRecDepth 100000 in
theorem kc33_50_1 {i : Nat → Int32} {a : Nat → List Int32} {q : Nat → List Int64} {r : Nat → Nat} (hI : kI i a q) (hr : kr r) (x2 : Int32) : km 3 33 [.ref 50, .ref 1, .int x2] (ks i a q r) (kVN w33_50_1 i a q r (fun i1 a1 q1 r1 => True)) := by
  have hG := kG_self w33_50_1 hI hr
  refine km_ofN (q := (mi_h33, mi_c33)) rfl (by decide) (Nat.le_of_ble_eq_true rfl) ?_
  intro P hP
  refine ft_go mi_k33 3 4 [(0, .ref 50), (1, .ref 1), (2, .int x2)] [.int 8, .int x2, .int 0] i a q r (by rfl) ?_
  have m2 : (((bif decide (8 < x2) then 8 else x2).toInt ≤ x2.toInt) ∧ ((bif decide (8 < x2) then 8 else x2).toInt ≤ (8 : Int32).toInt)) ∧ ((bif decide (8 < x2) then 8 else x2).toInt = x2.toInt ∨ (bif decide (8 < x2) then 8 else x2).toInt = (8 : Int32).toInt) := kd_min
  refine ft_go mi_k33 1 7 [(0, .ref 50), (1, .ref 1), (2, .int x2)] [.int (bif decide (8 < x2) then 8 else x2), .int 0] i a q r (by rfl) ?_
  generalize (bif decide (8 < x2) then 8 else x2) = m1 at m2 ⊢
  have m4 : (((0 : Int32).toInt ≤ (bif decide (0 < m1) then m1 else 0).toInt) ∧ (m1.toInt ≤ (bif decide (0 < m1) then m1 else 0).toInt)) ∧ ((bif decide (0 < m1) then m1 else 0).toInt = (0 : Int32).toInt ∨ (bif decide (0 < m1) then m1 else 0).toInt = m1.toInt) := kd_max
  refine ft_go mi_k33 1 10 [(0, .ref 50), (1, .ref 1), (2, .int x2)] [.int (bif decide (0 < m1) then m1 else 0)] i a q r (by rfl) ?_
  generalize (bif decide (0 < m1) then m1 else 0) = m3 at m4 ⊢
  refine ft_go mi_k33 8 22 [(3, .int m3), (0, .ref 50), (1, .ref 1), (2, .int x2)] [.int m3, .int 0, .ref 51, .int 0, .ref 2] i a q r (by rfl) ?_
  refine ko_copyI3 mi_k33.1 (n := 8) (c := 8) (m := 8) (b := 8) (mi_k33.2 _ _ (by rfl)) (by rfl) (by rfl) (by rfl) (ksG2 _ _ _ _) (ksG51 _ _ _ _) (ksA51 _ _ _ _) (hG.I.2.1 2) rfl (hG.I.2.1 51) rfl (oz389 m4.1.1 kn0) (oz46 kn0) (oz46 kn0) (oz1017 m2.1.2 m4.2 kn8 kn0) (oz1017 m2.1.2 m4.2 kn8 kn0) ?_
  intro a6 ea6 fa6
  have hJ6 := kG_al3 hG 51 rfl ea6 fa6 (kcpy_len2 (n := 8) (c := 8) (m := 8) (b := 8) (sp := 0) (dp := 0) (n1 := m3) (hG.I.2.1 2) rfl (hG.I.2.1 51) rfl (oz389 m4.1.1 kn0) (oz46 kn0) (oz46 kn0) (oz1017 m2.1.2 m4.2 kn8 kn0) (oz1017 m2.1.2 m4.2 kn8 kn0)) (fun _ => kd_bd _)
  refine ft_go mi_k33 7 36 [(3, .int m3), (0, .ref 50), (1, .ref 1), (2, .int x2)] [.int m3, .int 0, .ref 55, .int 0, .ref 6] i a6 q r (by rfl) ?_
  refine ko_copyI3 mi_k33.1 (n := 8) (c := 8) (m := 8) (b := 8) (mi_k33.2 _ _ (by rfl)) (by rfl) (by rfl) (by rfl) (ksG6 _ _ _ _) (ksG55 _ _ _ _) (ksA55 _ _ _ _) (hJ6.I.2.1 6) rfl (hJ6.I.2.1 55) rfl (oz389 m4.1.1 kn0) (oz46 kn0) (oz46 kn0) (oz1017 m2.1.2 m4.2 kn8 kn0) (oz1017 m2.1.2 m4.2 kn8 kn0) ?_
  intro a8 ea8 fa8
  have hJ8 := kG_al3 hJ6 55 rfl ea8 fa8 (kcpy_len2 (n := 8) (c := 8) (m := 8) (b := 8) (sp := 0) (dp := 0) (n1 := m3) (hJ6.I.2.1 6) rfl (hJ6.I.2.1 55) rfl (oz389 m4.1.1 kn0) (oz46 kn0) (oz46 kn0) (oz1017 m2.1.2 m4.2 kn8 kn0) (oz1017 m2.1.2 m4.2 kn8 kn0)) (fun _ => kd_bd _)
  refine ft_go mi_k33 7 50 [(3, .int m3), (0, .ref 50), (1, .ref 1), (2, .int x2)] [.int 5, .int 0, .ref 63, .int 0, .ref 14] i a8 q r (by rfl) ?_
  refine ko_copyI3 mi_k33.1 (n := 5) (c := 5) (m := 5) (b := 5) (mi_k33.2 _ _ (by rfl)) (by rfl) (by rfl) (by rfl) (ksG14 _ _ _ _) (ksG63 _ _ _ _) (ksA63 _ _ _ _) (hJ8.I.2.1 14) rfl (hJ8.I.2.1 63) rfl (oz264 kn5) (oz46 kn0) (oz46 kn0) (oz1018 kn0 kn5) (oz1018 kn0 kn5) ?_
  intro a10 ea10 fa10
  have hJ10 := kG_al3 hJ8 63 rfl ea10 fa10 (kcpy_len2 (n := 5) (c := 5) (m := 5) (b := 5) (sp := 0) (dp := 0) (n1 := 5) (hJ8.I.2.1 14) rfl (hJ8.I.2.1 63) rfl (oz264 kn5) (oz46 kn0) (oz46 kn0) (oz1018 kn0 kn5) (oz1018 kn0 kn5)) (fun _ => kd_bd _)
  have hJ11 := kG_i hJ10 3208 rfl (v := (i 72)) (kd_bd _)
  have hJ12 := kG_i hJ11 3209 rfl (v := (i 73)) (kd_bd _)
  refine ft_go mi_k33 12 77 [(3, .int m3), (0, .ref 50), (1, .ref 1), (2, .int x2)] [.ref 7, .ref 56] (ku (ku i 3208 (i 72)) 3209 (i 73)) a10 q r (by rfl) ?_
  refine ko_callN mi_k33.1 (pc := 77) (ls := [(3, .int m3), (0, .ref 50), (1, .ref 1), (2, .int x2)]) (st := [.ref 7, .ref 56]) (h := ks (ku (ku i 3208 (i 72)) 3209 (i 73)) a10 q r) (i := (.invokevirtual 139, 3, 3, 0, 9, 0, 217)) (mi_k33.2 _ _ (by rfl)) (ft_invS mi_pq3 (by rfl)) (cy := mi_c3) mi_pq3 rfl (kc3_56_7 hJ12.I hJ12.R ) (by decide) ?_
  intro ig13 ag13 qg13 rg13 kg13 hg13
  have hGg13 := kG_call hJ12 kg13 (by decide +kernel)
  exact ft_ret mi_k33 (by rfl) (hP  _ _ _ _ hGg13 trivial)
def w34_50_1 : kW := ([3200, 3206, 3207, 3208, 3209, 3586], [51, 52, 53, 54, 55, 57, 58, 63, 65, 66, 67, 68, 69, 70, 71, 72], [], [1])
def w34_50_1_L86 : kW := ([], [63], [], [])
def w34_50_1_L106 : kW := ([], [65, 66, 67, 68, 69, 70, 71, 72], [], [])
def w34_50_1_L114 : kW := ([], [65, 66, 67, 68, 69, 70, 71, 72], [], [])
set_option maxRecDepth 100000 in
theorem kc34_50_1 {i : Nat → Int32} {a : Nat → List Int32} {q : Nat → List Int64} {r : Nat → Nat} (hI : kI i a q) (hr : kr r)  : km 5 34 [.ref 50, .ref 1] (ks i a q r) (kVN w34_50_1 i a q r (fun i1 a1 q1 r1 => True)) := by
  have hG := kG_self w34_50_1 hI hr
  refine km_ofN (q := (mi_h34, mi_c34)) rfl (by decide) (Nat.le_of_ble_eq_true rfl) ?_
  intro P hP
  first | refine ft_go mi_k34 3 4 [(0, .ref 50), (1, .ref 1)] [.int 8, .ref 1, .ref 50] i a q r (by rfl) ?_ | refine ko_steps mi_in34 3 _ (4, [(0, .ref 50), (1, .ref 1)], [.int 8, .ref 1, .ref 50], (0, 0), ks i a q r) (by rfl) ?_
  refine ko_callN mi_k34.1 (pc := 4) (ls := [(0, .ref 50), (1, .ref 1)]) (st := [.int 8, .ref 1, .ref 50]) (h := ks i a q r) (i := (.invokevirtual 143, 3, 33, 0, 9, 0, 213)) (mi_k34.2 _ _ (by rfl)) (ft_invS mi_pq33 (by rfl)) (cy := mi_c33) mi_pq33 rfl (kc33_50_1 hG.I hG.R 8) (by decide) ?_
  intro ig1 ag1 qg1 rg1 kg1 hg1
  have hGg1 := kG_call hG kg1 (by decide +kernel)
  have fig1_64 : ((0 : Int) ≤ (ig1 64).toInt) ∧ ((ig1 64).toInt ≤ 8) := hGg1.I.1 64
  have hJ2 := kG_i hGg1 3200 rfl (v := (ig1 64)) ⟨(oz3 fig1_64.1), (oz559 fig1_64.2)⟩
  first | refine ft_go mi_k34 11 27 [(0, .ref 50), (1, .ref 1)] [.int 8, .int 0, .ref 52, .int 0, .ref 3] (ku ig1 3200 (ig1 64)) ag1 qg1 rg1 (by rfl) ?_ | refine ko_steps mi_in34 11 _ (27, [(0, .ref 50), (1, .ref 1)], [.int 8, .int 0, .ref 52, .int 0, .ref 3], (0, 0), ks (ku ig1 3200 (ig1 64)) ag1 qg1 rg1) (by rfl) ?_
  refine ko_copyI3 mi_k34.1 (n := 8) (c := 8) (m := 8) (b := 8) (mi_k34.2 _ _ (by rfl)) (by rfl) (by rfl) (by rfl) (ksG3 _ _ _ _) (ksG52 _ _ _ _) (ksA52 _ _ _ _) (hJ2.I.2.1 3) rfl (hJ2.I.2.1 52) rfl (oz85 kn8) (oz46 kn0) (oz46 kn0) (oz1019 kn0 kn8) (oz1019 kn0 kn8) ?_
  intro a4 ea4 fa4
  have hJ4 := kG_al3 hJ2 52 rfl ea4 fa4 (kcpy_len2 (n := 8) (c := 8) (m := 8) (b := 8) (sp := 0) (dp := 0) (n1 := 8) (hJ2.I.2.1 3) rfl (hJ2.I.2.1 52) rfl (oz85 kn8) (oz46 kn0) (oz46 kn0) (oz1019 kn0 kn8) (oz1019 kn0 kn8)) (fun _ => kd_bd _)
  first | refine ft_go mi_k34 7 42 [(0, .ref 50), (1, .ref 1)] [.int 8, .int 0, .ref 53, .int 0, .ref 4] (ku ig1 3200 (ig1 64)) a4 qg1 rg1 (by rfl) ?_ | refine ko_steps mi_in34 7 _ (42, [(0, .ref 50), (1, .ref 1)], [.int 8, .int 0, .ref 53, .int 0, .ref 4], (0, 0), ks (ku ig1 3200 (ig1 64)) a4 qg1 rg1) (by rfl) ?_
  refine ko_copyI3 mi_k34.1 (n := 8) (c := 8) (m := 8) (b := 8) (mi_k34.2 _ _ (by rfl)) (by rfl) (by rfl) (by rfl) (ksG4 _ _ _ _) (ksG53 _ _ _ _) (ksA53 _ _ _ _) (hJ4.I.2.1 4) rfl (hJ4.I.2.1 53) rfl (oz85 kn8) (oz46 kn0) (oz46 kn0) (oz1019 kn0 kn8) (oz1019 kn0 kn8) ?_
  intro a6 ea6 fa6
  have hJ6 := kG_al3 hJ4 53 rfl ea6 fa6 (kcpy_len2 (n := 8) (c := 8) (m := 8) (b := 8) (sp := 0) (dp := 0) (n1 := 8) (hJ4.I.2.1 4) rfl (hJ4.I.2.1 53) rfl (oz85 kn8) (oz46 kn0) (oz46 kn0) (oz1019 kn0 kn8) (oz1019 kn0 kn8)) (fun _ => kd_bd _)
  first | refine ft_go mi_k34 7 57 [(0, .ref 50), (1, .ref 1)] [.int 8, .int 0, .ref 54, .int 0, .ref 5] (ku ig1 3200 (ig1 64)) a6 qg1 rg1 (by rfl) ?_ | refine ko_steps mi_in34 7 _ (57, [(0, .ref 50), (1, .ref 1)], [.int 8, .int 0, .ref 54, .int 0, .ref 5], (0, 0), ks (ku ig1 3200 (ig1 64)) a6 qg1 rg1) (by rfl) ?_
  refine ko_copyI3 mi_k34.1 (n := 8) (c := 8) (m := 8) (b := 8) (mi_k34.2 _ _ (by rfl)) (by rfl) (by rfl) (by rfl) (ksG5 _ _ _ _) (ksG54 _ _ _ _) (ksA54 _ _ _ _) (hJ6.I.2.1 5) rfl (hJ6.I.2.1 54) rfl (oz85 kn8) (oz46 kn0) (oz46 kn0) (oz1019 kn0 kn8) (oz1019 kn0 kn8) ?_
  intro a8 ea8 fa8
  have hJ8 := kG_al3 hJ6 54 rfl ea8 fa8 (kcpy_len2 (n := 8) (c := 8) (m := 8) (b := 8) (sp := 0) (dp := 0) (n1 := 8) (hJ6.I.2.1 5) rfl (hJ6.I.2.1 54) rfl (oz85 kn8) (oz46 kn0) (oz46 kn0) (oz1019 kn0 kn8) (oz1019 kn0 kn8)) (fun _ => kd_bd _)
  have hJ9 := kG_i hJ8 3206 rfl (v := (ig1 70)) (kd_bd _)
  have hJ10 := kG_i hJ9 3207 rfl (v := (ig1 71)) (kd_bd _)
  first | refine ft_go mi_k34 11 81 [(0, .ref 50), (1, .ref 1)] [.ref (rg1 0), .ref 50] (ku (ku (ku ig1 3200 (ig1 64)) 3206 (ig1 70)) 3207 (ig1 71)) a8 qg1 rg1 (by rfl) ?_ | refine ko_steps mi_in34 11 _ (81, [(0, .ref 50), (1, .ref 1)], [.ref (rg1 0), .ref 50], (0, 0), ks (ku (ku (ku ig1 3200 (ig1 64)) 3206 (ig1 70)) 3207 (ig1 71)) a8 qg1 rg1) (by rfl) ?_
  rcases hJ10.R.1 with ⟨eRrg1_0, eRrg1_2⟩ | ⟨eRrg1_0, eRrg1_2⟩
  ·
    have eRrg1_0 : rg1 0 = 10 := eRrg1_0
    have eRrg1_2 : rg1 2 = 100 := eRrg1_2
    refine ko_eq (x1 := (81, [(0, .ref 50), (1, .ref 1)], [.ref 10, .ref 50], (0, 0), ks (ku (ku (ku ig1 3200 (ig1 64)) 3206 (ig1 70)) 3207 (ig1 71)) a8 qg1 rg1)) (by rw [eRrg1_0]) ?_
    have hJ11 := kG_r hJ10 1 rfl (v := 10) ⟨hJ10.R.1, by first | exact Or.inl rfl | exact Or.inr (Or.inl rfl) | exact Or.inr (Or.inr rfl)⟩
    refine ko_steps mi_in34 3 _ (86, [(2, .int 0), (0, .ref 50), (1, .ref 1)], [], (0, 0), ks (ku (ku (ku ig1 3200 (ig1 64)) 3206 (ig1 70)) 3207 (ig1 71)) a8 qg1 (ku rg1 1 10)) (by rfl) ?_
    have lp12 : ∀ (nz : Nat) (i12 : Nat → Int32) (a12 : Nat → List Int32) (q12 : Nat → List Int64) (r12 : Nat → Nat) (l2_12 : Int32), kG w34_50_1_L86 (ku (ku (ku ig1 3200 (ig1 64)) 3206 (ig1 70)) 3207 (ig1 71)) a8 qg1 (ku rg1 1 10) i12 a12 q12 r12 → (0 : Int) ≤ l2_12.toInt → ((5 - l2_12.toInt)).toNat < nz → ko 5 (mi_h34, mi_c34) P (86, [(2, .int l2_12), (0, .ref 50), (1, .ref 1)], [], (0, 0), ks i12 a12 q12 r12) := by
      intro nz
      induction nz with
      | zero =>
        intro _ _ _ _ _ _ _ hm
        exact absurd hm (Nat.not_lt_zero _)
      | succ nz ih12 =>
        intro i12 a12 q12 r12 l2_12 hL12 p12_0 hm12
        first | refine ft_go mi_k34 2 88 [(2, .int l2_12), (0, .ref 50), (1, .ref 1)] [.int 4, .int l2_12] i12 a12 q12 r12 (by rfl) ?_ | refine ko_steps mi_in34 2 _ (88, [(2, .int l2_12), (0, .ref 50), (1, .ref 1)], [.int 4, .int l2_12], (0, 0), ks i12 a12 q12 r12) (by rfl) ?_
        refine ft_if mi_k34 (decide (4 < l2_12)) 104 91 [(2, .int l2_12), (0, .ref 50), (1, .ref 1)] [] (by rfl) (fun c => ?_) (fun c => ?_)
        ·
          have c13 : (4 : Int32).toInt < l2_12.toInt := kd_lt c; clear c
          have hG14 := kG_call hJ11 hL12 (by decide +kernel)
          first | refine ft_go mi_k34 2 106 [(2, .int 0), (0, .ref 50), (1, .ref 1)] [] i12 a12 q12 r12 (by rfl) ?_ | refine ko_steps mi_in34 2 _ (106, [(2, .int 0), (0, .ref 50), (1, .ref 1)], [], (0, 0), ks i12 a12 q12 r12) (by rfl) ?_
          have lp15 : ∀ (nz : Nat) (i15 : Nat → Int32) (a15 : Nat → List Int32) (q15 : Nat → List Int64) (r15 : Nat → Nat) (l2_15 : Int32), kG w34_50_1_L106 i12 a12 q12 r12 i15 a15 q15 r15 → (0 : Int) ≤ l2_15.toInt → ((8 - l2_15.toInt)).toNat < nz → ko 5 (mi_h34, mi_c34) P (106, [(2, .int l2_15), (0, .ref 50), (1, .ref 1)], [], (0, 0), ks i15 a15 q15 r15) := by
            intro nz
            induction nz with
            | zero =>
              intro _ _ _ _ _ _ _ hm
              exact absurd hm (Nat.not_lt_zero _)
            | succ nz ih15 =>
              intro i15 a15 q15 r15 l2_15 hL15 p15_0 hm15
              first | refine ft_go mi_k34 2 109 [(2, .int l2_15), (0, .ref 50), (1, .ref 1)] [.int 8, .int l2_15] i15 a15 q15 r15 (by rfl) ?_ | refine ko_steps mi_in34 2 _ (109, [(2, .int l2_15), (0, .ref 50), (1, .ref 1)], [.int 8, .int l2_15], (0, 0), ks i15 a15 q15 r15) (by rfl) ?_
              refine ft_if mi_k34 (decide (8 ≤ l2_15)) 141 112 [(2, .int l2_15), (0, .ref 50), (1, .ref 1)] [] (by rfl) (fun c => ?_) (fun c => ?_)
              ·
                have c16 : (8 : Int32).toInt ≤ l2_15.toInt := kd_le c; clear c
                have hG17 := kG_call hG14 hL15 (by decide +kernel)
                exact ft_ret mi_k34 (by rfl) (hP  _ _ _ _ hG17 trivial)
              ·
                have c18 : l2_15.toInt < (8 : Int32).toInt := kd_leF c; clear c
                first | refine ft_go mi_k34 2 114 [(3, .int 0), (2, .int l2_15), (0, .ref 50), (1, .ref 1)] [] i15 a15 q15 r15 (by rfl) ?_ | refine ko_steps mi_in34 2 _ (114, [(3, .int 0), (2, .int l2_15), (0, .ref 50), (1, .ref 1)], [], (0, 0), ks i15 a15 q15 r15) (by rfl) ?_
                have lp19 : ∀ (nz : Nat) (i19 : Nat → Int32) (a19 : Nat → List Int32) (q19 : Nat → List Int64) (r19 : Nat → Nat) (l3_19 : Int32), kG w34_50_1_L114 i15 a15 q15 r15 i19 a19 q19 r19 → ((0 : Int) ≤ l2_15.toInt) ∧ (l2_15.toInt ≤ 7) → (0 : Int) ≤ l3_19.toInt → ((8 - l3_19.toInt)).toNat < nz → ko 5 (mi_h34, mi_c34) P (114, [(3, .int l3_19), (2, .int l2_15), (0, .ref 50), (1, .ref 1)], [], (0, 0), ks i19 a19 q19 r19) := by
                  intro nz
                  induction nz with
                  | zero =>
                    intro _ _ _ _ _ _ _ _ hm
                    exact absurd hm (Nat.not_lt_zero _)
                  | succ nz ih19 =>
                    intro i19 a19 q19 r19 l3_19 hL19 p19_0 p19_1 hm19
                    first | refine ft_go mi_k34 2 117 [(3, .int l3_19), (2, .int l2_15), (0, .ref 50), (1, .ref 1)] [.int 8, .int l3_19] i19 a19 q19 r19 (by rfl) ?_ | refine ko_steps mi_in34 2 _ (117, [(3, .int l3_19), (2, .int l2_15), (0, .ref 50), (1, .ref 1)], [.int 8, .int l3_19], (0, 0), ks i19 a19 q19 r19) (by rfl) ?_
                    refine ft_if mi_k34 (decide (8 ≤ l3_19)) 135 120 [(3, .int l3_19), (2, .int l2_15), (0, .ref 50), (1, .ref 1)] [] (by rfl) (fun c => ?_) (fun c => ?_)
                    ·
                      have c20 : (8 : Int32).toInt ≤ l3_19.toInt := kd_le c; clear c
                      have hG21 := kG_call hL15 hL19 (by decide +kernel)
                      have s22 : (l2_15 + 1).toInt = l2_15.toInt + (1 : Int32).toInt := kd_add (oz12 p15_0 kn1) (oz474 c18 kn8 kn1)
                      first | refine ft_go mi_k34 2 106 [(2, .int (l2_15 + 1)), (3, .int l3_19), (0, .ref 50), (1, .ref 1)] [] i19 a19 q19 r19 (by rfl) ?_ | refine ko_steps mi_in34 2 _ (106, [(2, .int (l2_15 + 1)), (3, .int l3_19), (0, .ref 50), (1, .ref 1)], [], (0, 0), ks i19 a19 q19 r19) (by rfl) ?_
                      refine ko_perm [(2, .int (l2_15 + 1)), (0, .ref 50), (1, .ref 1)] (List.forall_mem_cons.mpr ⟨(List.Mem.head _), (List.forall_mem_cons.mpr ⟨(List.Mem.tail _ (List.Mem.tail _ (List.Mem.head _))), (List.forall_mem_cons.mpr ⟨(List.Mem.tail _ (List.Mem.tail _ (List.Mem.tail _ (List.Mem.head _)))), (fun _ h => absurd h List.not_mem_nil)⟩)⟩)⟩) ?_
                      exact ih15 _ _ _ _ _ hG21 (oz14 p15_0 s22 kn1) (kj_meas (oz475 s22 kn1) (oz476 c18 kn8) hm15)
                    ·
                      have c23 : l3_19.toInt < (8 : Int32).toInt := kd_leF c; clear c
                      first | refine ft_go mi_k34 3 125 [(3, .int l3_19), (2, .int l2_15), (0, .ref 50), (1, .ref 1)] [.int l2_15, .ref 64] i19 a19 q19 r19 (by rfl) ?_ | refine ko_steps mi_in34 3 _ (125, [(3, .int l3_19), (2, .int l2_15), (0, .ref 50), (1, .ref 1)], [.int l2_15, .ref 64], (0, 0), ks i19 a19 q19 r19) (by rfl) ?_
                      by_cases w24 : l2_15.toInt = 0
                      ·
                        refine ft_alx mi_k34 (pc := 125) (v := 0) (p := 64) (z := 65) (kj_eq w24 (by decide) : l2_15 = 0) (by decide +kernel) (by decide +kernel) ?_
                        first | refine ft_go mi_k34 2 128 [(3, .int l3_19), (2, .int l2_15), (0, .ref 50), (1, .ref 1)] [.int 0, .int l3_19, .ref 65] i19 a19 q19 r19 (by rfl) ?_ | refine ko_steps mi_in34 2 _ (128, [(3, .int l3_19), (2, .int l2_15), (0, .ref 50), (1, .ref 1)], [.int 0, .int l3_19, .ref 65], (0, 0), ks i19 a19 q19 r19) (by rfl) ?_
                        refine ko_iast3 mi_k34.1 (n := 8) (c := 8) (ax := (0, 0, 0, 0, 0)) (mi_k34.2 _ _ (by rfl)) (by rfl) (ksG65 _ _ _ _) (ksA65 _ _ _ _) (hL19.I.2.1 65) rfl (oz3 p19_1) (oz936 c23 kn8) ?_
                        intro a25 ea25 fa25
                        have hJ25 := kG_a3 hL19 65 rfl ea25 fa25 (kd_bd _)
                        have s26 : (l3_19 + 1).toInt = l3_19.toInt + (1 : Int32).toInt := kd_add (oz12 p19_1 kn1) (oz474 c23 kn8 kn1)
                        first | refine ft_go mi_k34 2 114 [(3, .int (l3_19 + 1)), (2, .int l2_15), (0, .ref 50), (1, .ref 1)] [] i19 a25 q19 r19 (by rfl) ?_ | refine ko_steps mi_in34 2 _ (114, [(3, .int (l3_19 + 1)), (2, .int l2_15), (0, .ref 50), (1, .ref 1)], [], (0, 0), ks i19 a25 q19 r19) (by rfl) ?_
                        exact ih19 _ _ _ _ _ hJ25 (oz488 c18 p15_0 kn8) (oz14 p19_1 s26 kn1) (kj_meas (oz475 s26 kn1) (oz476 c23 kn8) hm19)
                      by_cases w27 : l2_15.toInt = 1
                      ·
                        refine ft_alx mi_k34 (pc := 125) (v := 1) (p := 64) (z := 66) (kj_eq w27 (by decide) : l2_15 = 1) (by decide +kernel) (by decide +kernel) ?_
                        first | refine ft_go mi_k34 2 128 [(3, .int l3_19), (2, .int l2_15), (0, .ref 50), (1, .ref 1)] [.int 0, .int l3_19, .ref 66] i19 a19 q19 r19 (by rfl) ?_ | refine ko_steps mi_in34 2 _ (128, [(3, .int l3_19), (2, .int l2_15), (0, .ref 50), (1, .ref 1)], [.int 0, .int l3_19, .ref 66], (0, 0), ks i19 a19 q19 r19) (by rfl) ?_
                        refine ko_iast3 mi_k34.1 (n := 8) (c := 8) (ax := (0, 0, 0, 0, 0)) (mi_k34.2 _ _ (by rfl)) (by rfl) (ksG66 _ _ _ _) (ksA66 _ _ _ _) (hL19.I.2.1 66) rfl (oz3 p19_1) (oz936 c23 kn8) ?_
                        intro a28 ea28 fa28
                        have hJ28 := kG_a3 hL19 66 rfl ea28 fa28 (kd_bd _)
                        have s29 : (l3_19 + 1).toInt = l3_19.toInt + (1 : Int32).toInt := kd_add (oz12 p19_1 kn1) (oz474 c23 kn8 kn1)
                        first | refine ft_go mi_k34 2 114 [(3, .int (l3_19 + 1)), (2, .int l2_15), (0, .ref 50), (1, .ref 1)] [] i19 a28 q19 r19 (by rfl) ?_ | refine ko_steps mi_in34 2 _ (114, [(3, .int (l3_19 + 1)), (2, .int l2_15), (0, .ref 50), (1, .ref 1)], [], (0, 0), ks i19 a28 q19 r19) (by rfl) ?_
                        exact ih19 _ _ _ _ _ hJ28 (oz1021 c18 w27 kn8) (oz14 p19_1 s29 kn1) (kj_meas (oz475 s29 kn1) (oz476 c23 kn8) hm19)
                      by_cases w30 : l2_15.toInt = 2
                      ·
                        refine ft_alx mi_k34 (pc := 125) (v := 2) (p := 64) (z := 67) (kj_eq w30 (by decide) : l2_15 = 2) (by decide +kernel) (by decide +kernel) ?_
                        first | refine ft_go mi_k34 2 128 [(3, .int l3_19), (2, .int l2_15), (0, .ref 50), (1, .ref 1)] [.int 0, .int l3_19, .ref 67] i19 a19 q19 r19 (by rfl) ?_ | refine ko_steps mi_in34 2 _ (128, [(3, .int l3_19), (2, .int l2_15), (0, .ref 50), (1, .ref 1)], [.int 0, .int l3_19, .ref 67], (0, 0), ks i19 a19 q19 r19) (by rfl) ?_
                        refine ko_iast3 mi_k34.1 (n := 8) (c := 8) (ax := (0, 0, 0, 0, 0)) (mi_k34.2 _ _ (by rfl)) (by rfl) (ksG67 _ _ _ _) (ksA67 _ _ _ _) (hL19.I.2.1 67) rfl (oz3 p19_1) (oz936 c23 kn8) ?_
                        intro a31 ea31 fa31
                        have hJ31 := kG_a3 hL19 67 rfl ea31 fa31 (kd_bd _)
                        have s32 : (l3_19 + 1).toInt = l3_19.toInt + (1 : Int32).toInt := kd_add (oz12 p19_1 kn1) (oz474 c23 kn8 kn1)
                        first | refine ft_go mi_k34 2 114 [(3, .int (l3_19 + 1)), (2, .int l2_15), (0, .ref 50), (1, .ref 1)] [] i19 a31 q19 r19 (by rfl) ?_ | refine ko_steps mi_in34 2 _ (114, [(3, .int (l3_19 + 1)), (2, .int l2_15), (0, .ref 50), (1, .ref 1)], [], (0, 0), ks i19 a31 q19 r19) (by rfl) ?_
                        exact ih19 _ _ _ _ _ hJ31 (oz1022 c18 w30 kn8) (oz14 p19_1 s32 kn1) (kj_meas (oz475 s32 kn1) (oz476 c23 kn8) hm19)
                      by_cases w33 : l2_15.toInt = 3
                      ·
                        refine ft_alx mi_k34 (pc := 125) (v := 3) (p := 64) (z := 68) (kj_eq w33 (by decide) : l2_15 = 3) (by decide +kernel) (by decide +kernel) ?_
                        first | refine ft_go mi_k34 2 128 [(3, .int l3_19), (2, .int l2_15), (0, .ref 50), (1, .ref 1)] [.int 0, .int l3_19, .ref 68] i19 a19 q19 r19 (by rfl) ?_ | refine ko_steps mi_in34 2 _ (128, [(3, .int l3_19), (2, .int l2_15), (0, .ref 50), (1, .ref 1)], [.int 0, .int l3_19, .ref 68], (0, 0), ks i19 a19 q19 r19) (by rfl) ?_
                        refine ko_iast3 mi_k34.1 (n := 8) (c := 8) (ax := (0, 0, 0, 0, 0)) (mi_k34.2 _ _ (by rfl)) (by rfl) (ksG68 _ _ _ _) (ksA68 _ _ _ _) (hL19.I.2.1 68) rfl (oz3 p19_1) (oz936 c23 kn8) ?_
                        intro a34 ea34 fa34
                        have hJ34 := kG_a3 hL19 68 rfl ea34 fa34 (kd_bd _)
                        have s35 : (l3_19 + 1).toInt = l3_19.toInt + (1 : Int32).toInt := kd_add (oz12 p19_1 kn1) (oz474 c23 kn8 kn1)
                        first | refine ft_go mi_k34 2 114 [(3, .int (l3_19 + 1)), (2, .int l2_15), (0, .ref 50), (1, .ref 1)] [] i19 a34 q19 r19 (by rfl) ?_ | refine ko_steps mi_in34 2 _ (114, [(3, .int (l3_19 + 1)), (2, .int l2_15), (0, .ref 50), (1, .ref 1)], [], (0, 0), ks i19 a34 q19 r19) (by rfl) ?_
                        exact ih19 _ _ _ _ _ hJ34 (oz1023 c18 w33 kn8) (oz14 p19_1 s35 kn1) (kj_meas (oz475 s35 kn1) (oz476 c23 kn8) hm19)
                      by_cases w36 : l2_15.toInt = 4
                      ·
                        refine ft_alx mi_k34 (pc := 125) (v := 4) (p := 64) (z := 69) (kj_eq w36 (by decide) : l2_15 = 4) (by decide +kernel) (by decide +kernel) ?_
                        first | refine ft_go mi_k34 2 128 [(3, .int l3_19), (2, .int l2_15), (0, .ref 50), (1, .ref 1)] [.int 0, .int l3_19, .ref 69] i19 a19 q19 r19 (by rfl) ?_ | refine ko_steps mi_in34 2 _ (128, [(3, .int l3_19), (2, .int l2_15), (0, .ref 50), (1, .ref 1)], [.int 0, .int l3_19, .ref 69], (0, 0), ks i19 a19 q19 r19) (by rfl) ?_
                        refine ko_iast3 mi_k34.1 (n := 8) (c := 8) (ax := (0, 0, 0, 0, 0)) (mi_k34.2 _ _ (by rfl)) (by rfl) (ksG69 _ _ _ _) (ksA69 _ _ _ _) (hL19.I.2.1 69) rfl (oz3 p19_1) (oz936 c23 kn8) ?_
                        intro a37 ea37 fa37
                        have hJ37 := kG_a3 hL19 69 rfl ea37 fa37 (kd_bd _)
                        have s38 : (l3_19 + 1).toInt = l3_19.toInt + (1 : Int32).toInt := kd_add (oz12 p19_1 kn1) (oz474 c23 kn8 kn1)
                        first | refine ft_go mi_k34 2 114 [(3, .int (l3_19 + 1)), (2, .int l2_15), (0, .ref 50), (1, .ref 1)] [] i19 a37 q19 r19 (by rfl) ?_ | refine ko_steps mi_in34 2 _ (114, [(3, .int (l3_19 + 1)), (2, .int l2_15), (0, .ref 50), (1, .ref 1)], [], (0, 0), ks i19 a37 q19 r19) (by rfl) ?_
                        exact ih19 _ _ _ _ _ hJ37 (oz1024 c18 w36 kn8) (oz14 p19_1 s38 kn1) (kj_meas (oz475 s38 kn1) (oz476 c23 kn8) hm19)
                      by_cases w39 : l2_15.toInt = 5
                      ·
                        refine ft_alx mi_k34 (pc := 125) (v := 5) (p := 64) (z := 70) (kj_eq w39 (by decide) : l2_15 = 5) (by decide +kernel) (by decide +kernel) ?_
                        first | refine ft_go mi_k34 2 128 [(3, .int l3_19), (2, .int l2_15), (0, .ref 50), (1, .ref 1)] [.int 0, .int l3_19, .ref 70] i19 a19 q19 r19 (by rfl) ?_ | refine ko_steps mi_in34 2 _ (128, [(3, .int l3_19), (2, .int l2_15), (0, .ref 50), (1, .ref 1)], [.int 0, .int l3_19, .ref 70], (0, 0), ks i19 a19 q19 r19) (by rfl) ?_
                        refine ko_iast3 mi_k34.1 (n := 8) (c := 8) (ax := (0, 0, 0, 0, 0)) (mi_k34.2 _ _ (by rfl)) (by rfl) (ksG70 _ _ _ _) (ksA70 _ _ _ _) (hL19.I.2.1 70) rfl (oz3 p19_1) (oz936 c23 kn8) ?_
                        intro a40 ea40 fa40
                        have hJ40 := kG_a3 hL19 70 rfl ea40 fa40 (kd_bd _)
                        have s41 : (l3_19 + 1).toInt = l3_19.toInt + (1 : Int32).toInt := kd_add (oz12 p19_1 kn1) (oz474 c23 kn8 kn1)
                        first | refine ft_go mi_k34 2 114 [(3, .int (l3_19 + 1)), (2, .int l2_15), (0, .ref 50), (1, .ref 1)] [] i19 a40 q19 r19 (by rfl) ?_ | refine ko_steps mi_in34 2 _ (114, [(3, .int (l3_19 + 1)), (2, .int l2_15), (0, .ref 50), (1, .ref 1)], [], (0, 0), ks i19 a40 q19 r19) (by rfl) ?_
                        exact ih19 _ _ _ _ _ hJ40 (oz1025 c18 w39 kn8) (oz14 p19_1 s41 kn1) (kj_meas (oz475 s41 kn1) (oz476 c23 kn8) hm19)
                      by_cases w42 : l2_15.toInt = 6
                      ·
                        refine ft_alx mi_k34 (pc := 125) (v := 6) (p := 64) (z := 71) (kj_eq w42 (by decide) : l2_15 = 6) (by decide +kernel) (by decide +kernel) ?_
                        first | refine ft_go mi_k34 2 128 [(3, .int l3_19), (2, .int l2_15), (0, .ref 50), (1, .ref 1)] [.int 0, .int l3_19, .ref 71] i19 a19 q19 r19 (by rfl) ?_ | refine ko_steps mi_in34 2 _ (128, [(3, .int l3_19), (2, .int l2_15), (0, .ref 50), (1, .ref 1)], [.int 0, .int l3_19, .ref 71], (0, 0), ks i19 a19 q19 r19) (by rfl) ?_
                        refine ko_iast3 mi_k34.1 (n := 8) (c := 8) (ax := (0, 0, 0, 0, 0)) (mi_k34.2 _ _ (by rfl)) (by rfl) (ksG71 _ _ _ _) (ksA71 _ _ _ _) (hL19.I.2.1 71) rfl (oz3 p19_1) (oz936 c23 kn8) ?_
                        intro a43 ea43 fa43
                        have hJ43 := kG_a3 hL19 71 rfl ea43 fa43 (kd_bd _)
                        have s44 : (l3_19 + 1).toInt = l3_19.toInt + (1 : Int32).toInt := kd_add (oz12 p19_1 kn1) (oz474 c23 kn8 kn1)
                        first | refine ft_go mi_k34 2 114 [(3, .int (l3_19 + 1)), (2, .int l2_15), (0, .ref 50), (1, .ref 1)] [] i19 a43 q19 r19 (by rfl) ?_ | refine ko_steps mi_in34 2 _ (114, [(3, .int (l3_19 + 1)), (2, .int l2_15), (0, .ref 50), (1, .ref 1)], [], (0, 0), ks i19 a43 q19 r19) (by rfl) ?_
                        exact ih19 _ _ _ _ _ hJ43 (oz1026 c18 w42 kn8) (oz14 p19_1 s44 kn1) (kj_meas (oz475 s44 kn1) (oz476 c23 kn8) hm19)
                      by_cases w45 : l2_15.toInt = 7
                      ·
                        refine ft_alx mi_k34 (pc := 125) (v := 7) (p := 64) (z := 72) (kj_eq w45 (by decide) : l2_15 = 7) (by decide +kernel) (by decide +kernel) ?_
                        first | refine ft_go mi_k34 2 128 [(3, .int l3_19), (2, .int l2_15), (0, .ref 50), (1, .ref 1)] [.int 0, .int l3_19, .ref 72] i19 a19 q19 r19 (by rfl) ?_ | refine ko_steps mi_in34 2 _ (128, [(3, .int l3_19), (2, .int l2_15), (0, .ref 50), (1, .ref 1)], [.int 0, .int l3_19, .ref 72], (0, 0), ks i19 a19 q19 r19) (by rfl) ?_
                        refine ko_iast3 mi_k34.1 (n := 8) (c := 8) (ax := (0, 0, 0, 0, 0)) (mi_k34.2 _ _ (by rfl)) (by rfl) (ksG72 _ _ _ _) (ksA72 _ _ _ _) (hL19.I.2.1 72) rfl (oz3 p19_1) (oz936 c23 kn8) ?_
                        intro a46 ea46 fa46
                        have hJ46 := kG_a3 hL19 72 rfl ea46 fa46 (kd_bd _)
                        have s47 : (l3_19 + 1).toInt = l3_19.toInt + (1 : Int32).toInt := kd_add (oz12 p19_1 kn1) (oz474 c23 kn8 kn1)
                        first | refine ft_go mi_k34 2 114 [(3, .int (l3_19 + 1)), (2, .int l2_15), (0, .ref 50), (1, .ref 1)] [] i19 a46 q19 r19 (by rfl) ?_ | refine ko_steps mi_in34 2 _ (114, [(3, .int (l3_19 + 1)), (2, .int l2_15), (0, .ref 50), (1, .ref 1)], [], (0, 0), ks i19 a46 q19 r19) (by rfl) ?_
                        exact ih19 _ _ _ _ _ hJ46 (oz1027 c18 w45 kn8) (oz14 p19_1 s47 kn1) (kj_meas (oz475 s47 kn1) (oz476 c23 kn8) hm19)
                      exact (oz1028 c18 p15_0 w24 w27 w30 w33 w36 w39 w42 w45 kn8).elim
                exact lp19 _ _ _ _ _ _ (kG_self _ hL15.I hL15.R) (oz488 c18 p15_0 kn8) (oz46 kn0) (Nat.lt_succ_self _)
          exact lp15 _ _ _ _ _ _ (kG_self _ hG14.I hG14.R) (oz46 kn0) (Nat.lt_succ_self _)
        ·
          have c48 : l2_12.toInt ≤ (4 : Int32).toInt := kd_ltF c; clear c
          first | refine ft_go mi_k34 4 97 [(2, .int l2_12), (0, .ref 50), (1, .ref 1)] [.int 0, .int l2_12, .ref 63] i12 a12 q12 r12 (by rfl) ?_ | refine ko_steps mi_in34 4 _ (97, [(2, .int l2_12), (0, .ref 50), (1, .ref 1)], [.int 0, .int l2_12, .ref 63], (0, 0), ks i12 a12 q12 r12) (by rfl) ?_
          refine ko_iast3 mi_k34.1 (n := 5) (c := 5) (ax := (0, 0, 0, 0, 0)) (mi_k34.2 _ _ (by rfl)) (by rfl) (ksG63 _ _ _ _) (ksA63 _ _ _ _) (hL12.I.2.1 63) rfl (oz3 p12_0) (oz557 c48 kn4) ?_
          intro a49 ea49 fa49
          have hJ49 := kG_a3 hL12 63 rfl ea49 fa49 (kd_bd _)
          have s50 : (l2_12 + 1).toInt = l2_12.toInt + (1 : Int32).toInt := kd_add (oz12 p12_0 kn1) (oz1029 c48 kn4 kn1)
          first | refine ft_go mi_k34 2 86 [(2, .int (l2_12 + 1)), (0, .ref 50), (1, .ref 1)] [] i12 a49 q12 r12 (by rfl) ?_ | refine ko_steps mi_in34 2 _ (86, [(2, .int (l2_12 + 1)), (0, .ref 50), (1, .ref 1)], [], (0, 0), ks i12 a49 q12 r12) (by rfl) ?_
          exact ih12 _ _ _ _ _ hJ49 (oz14 p12_0 s50 kn1) (kj_meas (oz372 s50 kn1) (oz1030 c48 kn4) hm12)
    exact lp12 _ _ _ _ _ _ (kG_self _ hJ11.I hJ11.R) (oz46 kn0) (Nat.lt_succ_self _)
  ·
    have eRrg1_0 : rg1 0 = 100 := eRrg1_0
    have eRrg1_2 : rg1 2 = 10 := eRrg1_2
    refine ko_eq (x1 := (81, [(0, .ref 50), (1, .ref 1)], [.ref 100, .ref 50], (0, 0), ks (ku (ku (ku ig1 3200 (ig1 64)) 3206 (ig1 70)) 3207 (ig1 71)) a8 qg1 rg1)) (by rw [eRrg1_0]) ?_
    have hJ51 := kG_r hJ10 1 rfl (v := 100) ⟨hJ10.R.1, by first | exact Or.inl rfl | exact Or.inr (Or.inl rfl) | exact Or.inr (Or.inr rfl)⟩
    refine ko_steps mi_in34 3 _ (86, [(2, .int 0), (0, .ref 50), (1, .ref 1)], [], (0, 0), ks (ku (ku (ku ig1 3200 (ig1 64)) 3206 (ig1 70)) 3207 (ig1 71)) a8 qg1 (ku rg1 1 100)) (by rfl) ?_
    have lp52 : ∀ (nz : Nat) (i52 : Nat → Int32) (a52 : Nat → List Int32) (q52 : Nat → List Int64) (r52 : Nat → Nat) (l2_52 : Int32), kG w34_50_1_L86 (ku (ku (ku ig1 3200 (ig1 64)) 3206 (ig1 70)) 3207 (ig1 71)) a8 qg1 (ku rg1 1 100) i52 a52 q52 r52 → (0 : Int) ≤ l2_52.toInt → ((5 - l2_52.toInt)).toNat < nz → ko 5 (mi_h34, mi_c34) P (86, [(2, .int l2_52), (0, .ref 50), (1, .ref 1)], [], (0, 0), ks i52 a52 q52 r52) := by
      intro nz
      induction nz with
      | zero =>
        intro _ _ _ _ _ _ _ hm
        exact absurd hm (Nat.not_lt_zero _)
      | succ nz ih52 =>
        intro i52 a52 q52 r52 l2_52 hL52 p52_0 hm52
        first | refine ft_go mi_k34 2 88 [(2, .int l2_52), (0, .ref 50), (1, .ref 1)] [.int 4, .int l2_52] i52 a52 q52 r52 (by rfl) ?_ | refine ko_steps mi_in34 2 _ (88, [(2, .int l2_52), (0, .ref 50), (1, .ref 1)], [.int 4, .int l2_52], (0, 0), ks i52 a52 q52 r52) (by rfl) ?_
        refine ft_if mi_k34 (decide (4 < l2_52)) 104 91 [(2, .int l2_52), (0, .ref 50), (1, .ref 1)] [] (by rfl) (fun c => ?_) (fun c => ?_)
        ·
          have c53 : (4 : Int32).toInt < l2_52.toInt := kd_lt c; clear c
          have hG54 := kG_call hJ51 hL52 (by decide +kernel)
          first | refine ft_go mi_k34 2 106 [(2, .int 0), (0, .ref 50), (1, .ref 1)] [] i52 a52 q52 r52 (by rfl) ?_ | refine ko_steps mi_in34 2 _ (106, [(2, .int 0), (0, .ref 50), (1, .ref 1)], [], (0, 0), ks i52 a52 q52 r52) (by rfl) ?_
          have lp55 : ∀ (nz : Nat) (i55 : Nat → Int32) (a55 : Nat → List Int32) (q55 : Nat → List Int64) (r55 : Nat → Nat) (l2_55 : Int32), kG w34_50_1_L106 i52 a52 q52 r52 i55 a55 q55 r55 → (0 : Int) ≤ l2_55.toInt → ((8 - l2_55.toInt)).toNat < nz → ko 5 (mi_h34, mi_c34) P (106, [(2, .int l2_55), (0, .ref 50), (1, .ref 1)], [], (0, 0), ks i55 a55 q55 r55) := by
            intro nz
            induction nz with
            | zero =>
              intro _ _ _ _ _ _ _ hm
              exact absurd hm (Nat.not_lt_zero _)
            | succ nz ih55 =>
              intro i55 a55 q55 r55 l2_55 hL55 p55_0 hm55
              first | refine ft_go mi_k34 2 109 [(2, .int l2_55), (0, .ref 50), (1, .ref 1)] [.int 8, .int l2_55] i55 a55 q55 r55 (by rfl) ?_ | refine ko_steps mi_in34 2 _ (109, [(2, .int l2_55), (0, .ref 50), (1, .ref 1)], [.int 8, .int l2_55], (0, 0), ks i55 a55 q55 r55) (by rfl) ?_
              refine ft_if mi_k34 (decide (8 ≤ l2_55)) 141 112 [(2, .int l2_55), (0, .ref 50), (1, .ref 1)] [] (by rfl) (fun c => ?_) (fun c => ?_)
              ·
                have c56 : (8 : Int32).toInt ≤ l2_55.toInt := kd_le c; clear c
                have hG57 := kG_call hG54 hL55 (by decide +kernel)
                exact ft_ret mi_k34 (by rfl) (hP  _ _ _ _ hG57 trivial)
              ·
                have c58 : l2_55.toInt < (8 : Int32).toInt := kd_leF c; clear c
                first | refine ft_go mi_k34 2 114 [(3, .int 0), (2, .int l2_55), (0, .ref 50), (1, .ref 1)] [] i55 a55 q55 r55 (by rfl) ?_ | refine ko_steps mi_in34 2 _ (114, [(3, .int 0), (2, .int l2_55), (0, .ref 50), (1, .ref 1)], [], (0, 0), ks i55 a55 q55 r55) (by rfl) ?_
                have lp59 : ∀ (nz : Nat) (i59 : Nat → Int32) (a59 : Nat → List Int32) (q59 : Nat → List Int64) (r59 : Nat → Nat) (l3_59 : Int32), kG w34_50_1_L114 i55 a55 q55 r55 i59 a59 q59 r59 → ((0 : Int) ≤ l2_55.toInt) ∧ (l2_55.toInt ≤ 7) → (0 : Int) ≤ l3_59.toInt → ((8 - l3_59.toInt)).toNat < nz → ko 5 (mi_h34, mi_c34) P (114, [(3, .int l3_59), (2, .int l2_55), (0, .ref 50), (1, .ref 1)], [], (0, 0), ks i59 a59 q59 r59) := by
                  intro nz
                  induction nz with
                  | zero =>
                    intro _ _ _ _ _ _ _ _ hm
                    exact absurd hm (Nat.not_lt_zero _)
                  | succ nz ih59 =>
                    intro i59 a59 q59 r59 l3_59 hL59 p59_0 p59_1 hm59
                    first | refine ft_go mi_k34 2 117 [(3, .int l3_59), (2, .int l2_55), (0, .ref 50), (1, .ref 1)] [.int 8, .int l3_59] i59 a59 q59 r59 (by rfl) ?_ | refine ko_steps mi_in34 2 _ (117, [(3, .int l3_59), (2, .int l2_55), (0, .ref 50), (1, .ref 1)], [.int 8, .int l3_59], (0, 0), ks i59 a59 q59 r59) (by rfl) ?_
                    refine ft_if mi_k34 (decide (8 ≤ l3_59)) 135 120 [(3, .int l3_59), (2, .int l2_55), (0, .ref 50), (1, .ref 1)] [] (by rfl) (fun c => ?_) (fun c => ?_)
                    ·
                      have c60 : (8 : Int32).toInt ≤ l3_59.toInt := kd_le c; clear c
                      have hG61 := kG_call hL55 hL59 (by decide +kernel)
                      have s62 : (l2_55 + 1).toInt = l2_55.toInt + (1 : Int32).toInt := kd_add (oz12 p55_0 kn1) (oz474 c58 kn8 kn1)
                      first | refine ft_go mi_k34 2 106 [(2, .int (l2_55 + 1)), (3, .int l3_59), (0, .ref 50), (1, .ref 1)] [] i59 a59 q59 r59 (by rfl) ?_ | refine ko_steps mi_in34 2 _ (106, [(2, .int (l2_55 + 1)), (3, .int l3_59), (0, .ref 50), (1, .ref 1)], [], (0, 0), ks i59 a59 q59 r59) (by rfl) ?_
                      refine ko_perm [(2, .int (l2_55 + 1)), (0, .ref 50), (1, .ref 1)] (List.forall_mem_cons.mpr ⟨(List.Mem.head _), (List.forall_mem_cons.mpr ⟨(List.Mem.tail _ (List.Mem.tail _ (List.Mem.head _))), (List.forall_mem_cons.mpr ⟨(List.Mem.tail _ (List.Mem.tail _ (List.Mem.tail _ (List.Mem.head _)))), (fun _ h => absurd h List.not_mem_nil)⟩)⟩)⟩) ?_
                      exact ih55 _ _ _ _ _ hG61 (oz14 p55_0 s62 kn1) (kj_meas (oz475 s62 kn1) (oz476 c58 kn8) hm55)
                    ·
                      have c63 : l3_59.toInt < (8 : Int32).toInt := kd_leF c; clear c
                      first | refine ft_go mi_k34 3 125 [(3, .int l3_59), (2, .int l2_55), (0, .ref 50), (1, .ref 1)] [.int l2_55, .ref 64] i59 a59 q59 r59 (by rfl) ?_ | refine ko_steps mi_in34 3 _ (125, [(3, .int l3_59), (2, .int l2_55), (0, .ref 50), (1, .ref 1)], [.int l2_55, .ref 64], (0, 0), ks i59 a59 q59 r59) (by rfl) ?_
                      by_cases w64 : l2_55.toInt = 0
                      ·
                        refine ft_alx mi_k34 (pc := 125) (v := 0) (p := 64) (z := 65) (kj_eq w64 (by decide) : l2_55 = 0) (by decide +kernel) (by decide +kernel) ?_
                        first | refine ft_go mi_k34 2 128 [(3, .int l3_59), (2, .int l2_55), (0, .ref 50), (1, .ref 1)] [.int 0, .int l3_59, .ref 65] i59 a59 q59 r59 (by rfl) ?_ | refine ko_steps mi_in34 2 _ (128, [(3, .int l3_59), (2, .int l2_55), (0, .ref 50), (1, .ref 1)], [.int 0, .int l3_59, .ref 65], (0, 0), ks i59 a59 q59 r59) (by rfl) ?_
                        refine ko_iast3 mi_k34.1 (n := 8) (c := 8) (ax := (0, 0, 0, 0, 0)) (mi_k34.2 _ _ (by rfl)) (by rfl) (ksG65 _ _ _ _) (ksA65 _ _ _ _) (hL59.I.2.1 65) rfl (oz3 p59_1) (oz936 c63 kn8) ?_
                        intro a65 ea65 fa65
                        have hJ65 := kG_a3 hL59 65 rfl ea65 fa65 (kd_bd _)
                        have s66 : (l3_59 + 1).toInt = l3_59.toInt + (1 : Int32).toInt := kd_add (oz12 p59_1 kn1) (oz474 c63 kn8 kn1)
                        first | refine ft_go mi_k34 2 114 [(3, .int (l3_59 + 1)), (2, .int l2_55), (0, .ref 50), (1, .ref 1)] [] i59 a65 q59 r59 (by rfl) ?_ | refine ko_steps mi_in34 2 _ (114, [(3, .int (l3_59 + 1)), (2, .int l2_55), (0, .ref 50), (1, .ref 1)], [], (0, 0), ks i59 a65 q59 r59) (by rfl) ?_
                        exact ih59 _ _ _ _ _ hJ65 (oz488 c58 p55_0 kn8) (oz14 p59_1 s66 kn1) (kj_meas (oz475 s66 kn1) (oz476 c63 kn8) hm59)
                      by_cases w67 : l2_55.toInt = 1
                      ·
                        refine ft_alx mi_k34 (pc := 125) (v := 1) (p := 64) (z := 66) (kj_eq w67 (by decide) : l2_55 = 1) (by decide +kernel) (by decide +kernel) ?_
                        first | refine ft_go mi_k34 2 128 [(3, .int l3_59), (2, .int l2_55), (0, .ref 50), (1, .ref 1)] [.int 0, .int l3_59, .ref 66] i59 a59 q59 r59 (by rfl) ?_ | refine ko_steps mi_in34 2 _ (128, [(3, .int l3_59), (2, .int l2_55), (0, .ref 50), (1, .ref 1)], [.int 0, .int l3_59, .ref 66], (0, 0), ks i59 a59 q59 r59) (by rfl) ?_
                        refine ko_iast3 mi_k34.1 (n := 8) (c := 8) (ax := (0, 0, 0, 0, 0)) (mi_k34.2 _ _ (by rfl)) (by rfl) (ksG66 _ _ _ _) (ksA66 _ _ _ _) (hL59.I.2.1 66) rfl (oz3 p59_1) (oz936 c63 kn8) ?_
                        intro a68 ea68 fa68
                        have hJ68 := kG_a3 hL59 66 rfl ea68 fa68 (kd_bd _)
                        have s69 : (l3_59 + 1).toInt = l3_59.toInt + (1 : Int32).toInt := kd_add (oz12 p59_1 kn1) (oz474 c63 kn8 kn1)
                        first | refine ft_go mi_k34 2 114 [(3, .int (l3_59 + 1)), (2, .int l2_55), (0, .ref 50), (1, .ref 1)] [] i59 a68 q59 r59 (by rfl) ?_ | refine ko_steps mi_in34 2 _ (114, [(3, .int (l3_59 + 1)), (2, .int l2_55), (0, .ref 50), (1, .ref 1)], [], (0, 0), ks i59 a68 q59 r59) (by rfl) ?_
                        exact ih59 _ _ _ _ _ hJ68 (oz1021 c58 w67 kn8) (oz14 p59_1 s69 kn1) (kj_meas (oz475 s69 kn1) (oz476 c63 kn8) hm59)
                      by_cases w70 : l2_55.toInt = 2
                      ·
                        refine ft_alx mi_k34 (pc := 125) (v := 2) (p := 64) (z := 67) (kj_eq w70 (by decide) : l2_55 = 2) (by decide +kernel) (by decide +kernel) ?_
                        first | refine ft_go mi_k34 2 128 [(3, .int l3_59), (2, .int l2_55), (0, .ref 50), (1, .ref 1)] [.int 0, .int l3_59, .ref 67] i59 a59 q59 r59 (by rfl) ?_ | refine ko_steps mi_in34 2 _ (128, [(3, .int l3_59), (2, .int l2_55), (0, .ref 50), (1, .ref 1)], [.int 0, .int l3_59, .ref 67], (0, 0), ks i59 a59 q59 r59) (by rfl) ?_
                        refine ko_iast3 mi_k34.1 (n := 8) (c := 8) (ax := (0, 0, 0, 0, 0)) (mi_k34.2 _ _ (by rfl)) (by rfl) (ksG67 _ _ _ _) (ksA67 _ _ _ _) (hL59.I.2.1 67) rfl (oz3 p59_1) (oz936 c63 kn8) ?_
                        intro a71 ea71 fa71
                        have hJ71 := kG_a3 hL59 67 rfl ea71 fa71 (kd_bd _)
                        have s72 : (l3_59 + 1).toInt = l3_59.toInt + (1 : Int32).toInt := kd_add (oz12 p59_1 kn1) (oz474 c63 kn8 kn1)
                        first | refine ft_go mi_k34 2 114 [(3, .int (l3_59 + 1)), (2, .int l2_55), (0, .ref 50), (1, .ref 1)] [] i59 a71 q59 r59 (by rfl) ?_ | refine ko_steps mi_in34 2 _ (114, [(3, .int (l3_59 + 1)), (2, .int l2_55), (0, .ref 50), (1, .ref 1)], [], (0, 0), ks i59 a71 q59 r59) (by rfl) ?_
                        exact ih59 _ _ _ _ _ hJ71 (oz1022 c58 w70 kn8) (oz14 p59_1 s72 kn1) (kj_meas (oz475 s72 kn1) (oz476 c63 kn8) hm59)
                      by_cases w73 : l2_55.toInt = 3
                      ·
                        refine ft_alx mi_k34 (pc := 125) (v := 3) (p := 64) (z := 68) (kj_eq w73 (by decide) : l2_55 = 3) (by decide +kernel) (by decide +kernel) ?_
                        first | refine ft_go mi_k34 2 128 [(3, .int l3_59), (2, .int l2_55), (0, .ref 50), (1, .ref 1)] [.int 0, .int l3_59, .ref 68] i59 a59 q59 r59 (by rfl) ?_ | refine ko_steps mi_in34 2 _ (128, [(3, .int l3_59), (2, .int l2_55), (0, .ref 50), (1, .ref 1)], [.int 0, .int l3_59, .ref 68], (0, 0), ks i59 a59 q59 r59) (by rfl) ?_
                        refine ko_iast3 mi_k34.1 (n := 8) (c := 8) (ax := (0, 0, 0, 0, 0)) (mi_k34.2 _ _ (by rfl)) (by rfl) (ksG68 _ _ _ _) (ksA68 _ _ _ _) (hL59.I.2.1 68) rfl (oz3 p59_1) (oz936 c63 kn8) ?_
                        intro a74 ea74 fa74
                        have hJ74 := kG_a3 hL59 68 rfl ea74 fa74 (kd_bd _)
                        have s75 : (l3_59 + 1).toInt = l3_59.toInt + (1 : Int32).toInt := kd_add (oz12 p59_1 kn1) (oz474 c63 kn8 kn1)
                        first | refine ft_go mi_k34 2 114 [(3, .int (l3_59 + 1)), (2, .int l2_55), (0, .ref 50), (1, .ref 1)] [] i59 a74 q59 r59 (by rfl) ?_ | refine ko_steps mi_in34 2 _ (114, [(3, .int (l3_59 + 1)), (2, .int l2_55), (0, .ref 50), (1, .ref 1)], [], (0, 0), ks i59 a74 q59 r59) (by rfl) ?_
                        exact ih59 _ _ _ _ _ hJ74 (oz1023 c58 w73 kn8) (oz14 p59_1 s75 kn1) (kj_meas (oz475 s75 kn1) (oz476 c63 kn8) hm59)
                      by_cases w76 : l2_55.toInt = 4
                      ·
                        refine ft_alx mi_k34 (pc := 125) (v := 4) (p := 64) (z := 69) (kj_eq w76 (by decide) : l2_55 = 4) (by decide +kernel) (by decide +kernel) ?_
                        first | refine ft_go mi_k34 2 128 [(3, .int l3_59), (2, .int l2_55), (0, .ref 50), (1, .ref 1)] [.int 0, .int l3_59, .ref 69] i59 a59 q59 r59 (by rfl) ?_ | refine ko_steps mi_in34 2 _ (128, [(3, .int l3_59), (2, .int l2_55), (0, .ref 50), (1, .ref 1)], [.int 0, .int l3_59, .ref 69], (0, 0), ks i59 a59 q59 r59) (by rfl) ?_
                        refine ko_iast3 mi_k34.1 (n := 8) (c := 8) (ax := (0, 0, 0, 0, 0)) (mi_k34.2 _ _ (by rfl)) (by rfl) (ksG69 _ _ _ _) (ksA69 _ _ _ _) (hL59.I.2.1 69) rfl (oz3 p59_1) (oz936 c63 kn8) ?_
                        intro a77 ea77 fa77
                        have hJ77 := kG_a3 hL59 69 rfl ea77 fa77 (kd_bd _)
                        have s78 : (l3_59 + 1).toInt = l3_59.toInt + (1 : Int32).toInt := kd_add (oz12 p59_1 kn1) (oz474 c63 kn8 kn1)
                        first | refine ft_go mi_k34 2 114 [(3, .int (l3_59 + 1)), (2, .int l2_55), (0, .ref 50), (1, .ref 1)] [] i59 a77 q59 r59 (by rfl) ?_ | refine ko_steps mi_in34 2 _ (114, [(3, .int (l3_59 + 1)), (2, .int l2_55), (0, .ref 50), (1, .ref 1)], [], (0, 0), ks i59 a77 q59 r59) (by rfl) ?_
                        exact ih59 _ _ _ _ _ hJ77 (oz1024 c58 w76 kn8) (oz14 p59_1 s78 kn1) (kj_meas (oz475 s78 kn1) (oz476 c63 kn8) hm59)
                      by_cases w79 : l2_55.toInt = 5
                      ·
                        refine ft_alx mi_k34 (pc := 125) (v := 5) (p := 64) (z := 70) (kj_eq w79 (by decide) : l2_55 = 5) (by decide +kernel) (by decide +kernel) ?_
                        first | refine ft_go mi_k34 2 128 [(3, .int l3_59), (2, .int l2_55), (0, .ref 50), (1, .ref 1)] [.int 0, .int l3_59, .ref 70] i59 a59 q59 r59 (by rfl) ?_ | refine ko_steps mi_in34 2 _ (128, [(3, .int l3_59), (2, .int l2_55), (0, .ref 50), (1, .ref 1)], [.int 0, .int l3_59, .ref 70], (0, 0), ks i59 a59 q59 r59) (by rfl) ?_
                        refine ko_iast3 mi_k34.1 (n := 8) (c := 8) (ax := (0, 0, 0, 0, 0)) (mi_k34.2 _ _ (by rfl)) (by rfl) (ksG70 _ _ _ _) (ksA70 _ _ _ _) (hL59.I.2.1 70) rfl (oz3 p59_1) (oz936 c63 kn8) ?_
                        intro a80 ea80 fa80
                        have hJ80 := kG_a3 hL59 70 rfl ea80 fa80 (kd_bd _)
                        have s81 : (l3_59 + 1).toInt = l3_59.toInt + (1 : Int32).toInt := kd_add (oz12 p59_1 kn1) (oz474 c63 kn8 kn1)
                        first | refine ft_go mi_k34 2 114 [(3, .int (l3_59 + 1)), (2, .int l2_55), (0, .ref 50), (1, .ref 1)] [] i59 a80 q59 r59 (by rfl) ?_ | refine ko_steps mi_in34 2 _ (114, [(3, .int (l3_59 + 1)), (2, .int l2_55), (0, .ref 50), (1, .ref 1)], [], (0, 0), ks i59 a80 q59 r59) (by rfl) ?_
                        exact ih59 _ _ _ _ _ hJ80 (oz1025 c58 w79 kn8) (oz14 p59_1 s81 kn1) (kj_meas (oz475 s81 kn1) (oz476 c63 kn8) hm59)
                      by_cases w82 : l2_55.toInt = 6
                      ·
                        refine ft_alx mi_k34 (pc := 125) (v := 6) (p := 64) (z := 71) (kj_eq w82 (by decide) : l2_55 = 6) (by decide +kernel) (by decide +kernel) ?_
                        first | refine ft_go mi_k34 2 128 [(3, .int l3_59), (2, .int l2_55), (0, .ref 50), (1, .ref 1)] [.int 0, .int l3_59, .ref 71] i59 a59 q59 r59 (by rfl) ?_ | refine ko_steps mi_in34 2 _ (128, [(3, .int l3_59), (2, .int l2_55), (0, .ref 50), (1, .ref 1)], [.int 0, .int l3_59, .ref 71], (0, 0), ks i59 a59 q59 r59) (by rfl) ?_
                        refine ko_iast3 mi_k34.1 (n := 8) (c := 8) (ax := (0, 0, 0, 0, 0)) (mi_k34.2 _ _ (by rfl)) (by rfl) (ksG71 _ _ _ _) (ksA71 _ _ _ _) (hL59.I.2.1 71) rfl (oz3 p59_1) (oz936 c63 kn8) ?_
                        intro a83 ea83 fa83
                        have hJ83 := kG_a3 hL59 71 rfl ea83 fa83 (kd_bd _)
                        have s84 : (l3_59 + 1).toInt = l3_59.toInt + (1 : Int32).toInt := kd_add (oz12 p59_1 kn1) (oz474 c63 kn8 kn1)
                        first | refine ft_go mi_k34 2 114 [(3, .int (l3_59 + 1)), (2, .int l2_55), (0, .ref 50), (1, .ref 1)] [] i59 a83 q59 r59 (by rfl) ?_ | refine ko_steps mi_in34 2 _ (114, [(3, .int (l3_59 + 1)), (2, .int l2_55), (0, .ref 50), (1, .ref 1)], [], (0, 0), ks i59 a83 q59 r59) (by rfl) ?_
                        exact ih59 _ _ _ _ _ hJ83 (oz1026 c58 w82 kn8) (oz14 p59_1 s84 kn1) (kj_meas (oz475 s84 kn1) (oz476 c63 kn8) hm59)
                      by_cases w85 : l2_55.toInt = 7
                      ·
                        refine ft_alx mi_k34 (pc := 125) (v := 7) (p := 64) (z := 72) (kj_eq w85 (by decide) : l2_55 = 7) (by decide +kernel) (by decide +kernel) ?_
                        first | refine ft_go mi_k34 2 128 [(3, .int l3_59), (2, .int l2_55), (0, .ref 50), (1, .ref 1)] [.int 0, .int l3_59, .ref 72] i59 a59 q59 r59 (by rfl) ?_ | refine ko_steps mi_in34 2 _ (128, [(3, .int l3_59), (2, .int l2_55), (0, .ref 50), (1, .ref 1)], [.int 0, .int l3_59, .ref 72], (0, 0), ks i59 a59 q59 r59) (by rfl) ?_
                        refine ko_iast3 mi_k34.1 (n := 8) (c := 8) (ax := (0, 0, 0, 0, 0)) (mi_k34.2 _ _ (by rfl)) (by rfl) (ksG72 _ _ _ _) (ksA72 _ _ _ _) (hL59.I.2.1 72) rfl (oz3 p59_1) (oz936 c63 kn8) ?_
                        intro a86 ea86 fa86
                        have hJ86 := kG_a3 hL59 72 rfl ea86 fa86 (kd_bd _)
                        have s87 : (l3_59 + 1).toInt = l3_59.toInt + (1 : Int32).toInt := kd_add (oz12 p59_1 kn1) (oz474 c63 kn8 kn1)
                        first | refine ft_go mi_k34 2 114 [(3, .int (l3_59 + 1)), (2, .int l2_55), (0, .ref 50), (1, .ref 1)] [] i59 a86 q59 r59 (by rfl) ?_ | refine ko_steps mi_in34 2 _ (114, [(3, .int (l3_59 + 1)), (2, .int l2_55), (0, .ref 50), (1, .ref 1)], [], (0, 0), ks i59 a86 q59 r59) (by rfl) ?_
                        exact ih59 _ _ _ _ _ hJ86 (oz1027 c58 w85 kn8) (oz14 p59_1 s87 kn1) (kj_meas (oz475 s87 kn1) (oz476 c63 kn8) hm59)
                      exact (oz1028 c58 p55_0 w64 w67 w70 w73 w76 w79 w82 w85 kn8).elim
                exact lp59 _ _ _ _ _ _ (kG_self _ hL55.I hL55.R) (oz488 c58 p55_0 kn8) (oz46 kn0) (Nat.lt_succ_self _)
          exact lp55 _ _ _ _ _ _ (kG_self _ hG54.I hG54.R) (oz46 kn0) (Nat.lt_succ_self _)
        ·
          have c88 : l2_52.toInt ≤ (4 : Int32).toInt := kd_ltF c; clear c
          first | refine ft_go mi_k34 4 97 [(2, .int l2_52), (0, .ref 50), (1, .ref 1)] [.int 0, .int l2_52, .ref 63] i52 a52 q52 r52 (by rfl) ?_ | refine ko_steps mi_in34 4 _ (97, [(2, .int l2_52), (0, .ref 50), (1, .ref 1)], [.int 0, .int l2_52, .ref 63], (0, 0), ks i52 a52 q52 r52) (by rfl) ?_
          refine ko_iast3 mi_k34.1 (n := 5) (c := 5) (ax := (0, 0, 0, 0, 0)) (mi_k34.2 _ _ (by rfl)) (by rfl) (ksG63 _ _ _ _) (ksA63 _ _ _ _) (hL52.I.2.1 63) rfl (oz3 p52_0) (oz557 c88 kn4) ?_
          intro a89 ea89 fa89
          have hJ89 := kG_a3 hL52 63 rfl ea89 fa89 (kd_bd _)
          have s90 : (l2_52 + 1).toInt = l2_52.toInt + (1 : Int32).toInt := kd_add (oz12 p52_0 kn1) (oz1029 c88 kn4 kn1)
          first | refine ft_go mi_k34 2 86 [(2, .int (l2_52 + 1)), (0, .ref 50), (1, .ref 1)] [] i52 a89 q52 r52 (by rfl) ?_ | refine ko_steps mi_in34 2 _ (86, [(2, .int (l2_52 + 1)), (0, .ref 50), (1, .ref 1)], [], (0, 0), ks i52 a89 q52 r52) (by rfl) ?_
          exact ih52 _ _ _ _ _ hJ89 (oz14 p52_0 s90 kn1) (kj_meas (oz372 s90 kn1) (oz1030 c88 kn4) hm52)
    exact lp52 _ _ _ _ _ _ (kG_self _ hJ51.I hJ51.R) (oz46 kn0) (Nat.lt_succ_self _)
set_option maxRecDepth 100000 in
theorem kc24_50 {i : Nat → Int32} {a : Nat → List Int32} {q : Nat → List Int64} {r : Nat → Nat} (hI : kI i a q) (hr : kr r) (x1 : Int32) : km 1 24 [.ref 50, .int x1] (ks i a q r) (kPI (ks i a q r) (fun v => (v = 1 ∧ (((0 : Int) ≤ x1.toInt) ∧ (x1.toInt < (i 3200).toInt))) ∨ (v = 0 ∧ (¬ (((0 : Int) ≤ x1.toInt) ∧ (x1.toInt < (i 3200).toInt)))))) := by
  have hG := kG_self kW0 hI hr
  refine km_ofPI (q := (mi_h24, mi_c24)) rfl (by decide) (Nat.le_of_ble_eq_true rfl) ?_
  intro P hP
  refine ft_go mi_k24 1 1 [(0, .ref 50), (1, .int x1)] [.int x1] i a q r (by rfl) ?_
  refine ft_if mi_k24 (decide (x1 < 0)) 22 4 [(0, .ref 50), (1, .int x1)] [] (by rfl) (fun c => ?_) (fun c => ?_)
  ·
    have c1 : x1.toInt < (0 : Int32).toInt := kd_lt c; clear c
    refine ft_go mi_k24 1 23 [(0, .ref 50), (1, .int x1)] [.int 0] i a q r (by rfl) ?_
    exact ft_ret mi_k24 (by rfl) (hP 0 (Or.inr ⟨rfl, (oz963 c1 kn0)⟩))
  ·
    have c2 : (0 : Int32).toInt ≤ x1.toInt := kd_ltF c; clear c
    have fi_3200 : ((0 : Int) ≤ (i 3200).toInt) ∧ ((i 3200).toInt ≤ 8) := hG.I.1 3200
    refine ft_go mi_k24 3 9 [(0, .ref 50), (1, .int x1)] [.int (i 3200), .int x1] i a q r (by rfl) ?_
    refine ft_if mi_k24 (decide ((i 3200) ≤ x1)) 22 12 [(0, .ref 50), (1, .int x1)] [] (by rfl) (fun c => ?_) (fun c => ?_)
    ·
      have c3 : (i 3200).toInt ≤ x1.toInt := kd_le c; clear c
      refine ft_go mi_k24 1 23 [(0, .ref 50), (1, .int x1)] [.int 0] i a q r (by rfl) ?_
      exact ft_ret mi_k24 (by rfl) (hP 0 (Or.inr ⟨rfl, (oz964 c3)⟩))
    ·
      have c4 : x1.toInt < (i 3200).toInt := kd_leF c; clear c
      refine ft_go mi_k24 2 15 [(0, .ref 50), (1, .int x1)] [.int 8, .int x1] i a q r (by rfl) ?_
      refine ft_if mi_k24 (decide (8 ≤ x1)) 22 18 [(0, .ref 50), (1, .int x1)] [] (by rfl) (fun c => ?_) (fun c => ?_)
      ·
        have c5 : (8 : Int32).toInt ≤ x1.toInt := kd_le c; clear c
        exact (oz965 c4 c5 fi_3200.2 kn8).elim
      ·
        have c6 : x1.toInt < (8 : Int32).toInt := kd_leF c; clear c
        refine ft_go mi_k24 2 23 [(0, .ref 50), (1, .int x1)] [.int 1] i a q r (by rfl) ?_
        exact ft_ret mi_k24 (by rfl) (hP 1 (Or.inl ⟨rfl, (oz966 c2 c4 kn0)⟩))
def w19_59 : kW := ([3781], [62], [], [])
set_option maxRecDepth 100000 in
theorem kc19_59 {i : Nat → Int32} {a : Nat → List Int32} {q : Nat → List Int64} {r : Nat → Nat} (hI : kI i a q) (hr : kr r) (x1 : Int32) : km 1 19 [.ref 59, .int x1] (ks i a q r) (kVN w19_59 i a q r (fun i1 a1 q1 r1 => True)) := by
  have hG := kG_self w19_59 hI hr
  refine km_ofN (q := (mi_h19, mi_c19)) rfl (by decide) (Nat.le_of_ble_eq_true rfl) ?_
  intro P hP
  have fi_3781 : ((0 : Int) ≤ (i 3781).toInt) ∧ ((i 3781).toInt ≤ 121) := hG.I.1 3781
  refine ft_go mi_k19 3 6 [(0, .ref 59), (1, .int x1)] [.int 121, .int (i 3781)] i a q r (by rfl) ?_
  refine ft_if mi_k19 (decide (121 ≤ (i 3781))) 29 9 [(0, .ref 59), (1, .int x1)] [] (by rfl) (fun c => ?_) (fun c => ?_)
  ·
    have c1 : (121 : Int32).toInt ≤ (i 3781).toInt := kd_le c; clear c
    exact ft_ret mi_k19 (by rfl) (hP  _ _ _ _ hG trivial)
  ·
    have c2 : (i 3781).toInt < (121 : Int32).toInt := kd_leF c; clear c
    refine ft_go mi_k19 5 18 [(0, .ref 59), (1, .int x1)] [.int x1, .int (i 3781), .ref 62] i a q r (by rfl) ?_
    refine ko_iast3 mi_k19.1 (n := 121) (c := 121) (ax := (0, 0, 0, 0, 0)) (mi_k19.2 _ _ (by rfl)) (by rfl) (ksG62 _ _ _ _) (ksA62 _ _ _ _) (hG.I.2.1 62) rfl (oz3 fi_3781.1) (oz912 c2 kn121) ?_
    intro a3 ea3 fa3
    have hJ3 := kG_a3 hG 62 rfl ea3 fa3 (kd_bd _)
    have s4 : ((i 3781) + 1).toInt = (i 3781).toInt + (1 : Int32).toInt := kd_add (oz12 fi_3781.1 kn1) (oz913 fi_3781.2 kn1)
    have hJ5 := kG_i hJ3 3781 rfl (v := ((i 3781) + 1)) ⟨(oz14 fi_3781.1 s4 kn1), (oz914 c2 s4 kn121 kn1)⟩
    refine ft_go mi_k19 6 29 [(0, .ref 59), (1, .int x1)] [] (ku i 3781 ((i 3781) + 1)) a3 q r (by rfl) ?_
    exact ft_ret mi_k19 (by rfl) (hP  _ _ _ _ hJ5 trivial)
def w20_59 : kW := ([3781], [], [], [])
set_option maxRecDepth 100000 in
theorem kc20_59 {i : Nat → Int32} {a : Nat → List Int32} {q : Nat → List Int64} {r : Nat → Nat} (hI : kI i a q) (hr : kr r)  : km 1 20 [.ref 59] (ks i a q r) (kVI w20_59 i a q r (fun v i1 a1 q1 r1 => True)) := by
  have hG := kG_self w20_59 hI hr
  refine km_ofI (q := (mi_h20, mi_c20)) rfl (by decide) (Nat.le_of_ble_eq_true rfl) ?_
  intro P hP
  have fi_3781 : ((0 : Int) ≤ (i 3781).toInt) ∧ ((i 3781).toInt ≤ 121) := hG.I.1 3781
  refine ft_go mi_k20 2 4 [(0, .ref 59)] [.int (i 3781)] i a q r (by rfl) ?_
  refine ft_if mi_k20 (decide (0 < (i 3781))) 9 7 [(0, .ref 59)] [] (by rfl) (fun c => ?_) (fun c => ?_)
  ·
    have c1 : (0 : Int32).toInt < (i 3781).toInt := kd_lt c; clear c
    have s2 : ((i 3781) - 1).toInt = (i 3781).toInt - (1 : Int32).toInt := kd_sub (oz1040 c1 kn0 kn1) (oz911 fi_3781.2 kn1)
    have hJ3 := kG_i hG 3781 rfl (v := ((i 3781) - 1)) ⟨(oz1041 c1 s2 kn0 kn1), (oz1042 fi_3781.2 s2 kn1)⟩
    refine ft_go mi_k20 10 27 [(0, .ref 59)] [.int ((i 3781) - 1), .ref 62] (ku i 3781 ((i 3781) - 1)) a q r (by rfl) ?_
    refine ko_iald3 mi_k20.1 (n := 121) (c := 121) (ax := (0, 0, 0, 0, 0)) (mi_k20.2 _ _ (by rfl)) (by rfl) (ksG62 _ _ _ _) (hJ3.I.2.1 62) rfl (oz1041 c1 s2 kn0 kn1) (oz1043 fi_3781.2 s2 kn1) ?_
    exact ft_ret mi_k20 (by rfl) (hP ((a 62).getD ((i 3781) - 1).toNatClampNeg 0) _ _ _ _ hJ3 trivial)
  ·
    have c4 : (i 3781).toInt ≤ (0 : Int32).toInt := kd_ltF c; clear c
    refine ft_go mi_k20 1 8 [(0, .ref 59)] [.int 0] i a q r (by rfl) ?_
    exact ft_ret mi_k20 (by rfl) (hP 0 _ _ _ _ hG trivial)
set_option maxRecDepth 100000 in
theorem kc22 {i : Nat → Int32} {a : Nat → List Int32} {q : Nat → List Int64} {r : Nat → Nat} (hI : kI i a q) (hr : kr r) (x1 : Int32) (x2 : Int32) (x3 : Int32) : km 1 22 [.int x1, .int x2, .int x3] (ks i a q r) (kPI (ks i a q r) (fun v => True)) := by
  have hG := kG_self kW0 hI hr
  refine km_ofPI (q := (mi_h22, mi_c22)) rfl (by decide) (Nat.le_of_ble_eq_true rfl) ?_
  intro P hP
  refine ft_go mi_k22 1 1 [(0, .int x1), (1, .int x2), (2, .int x3)] [.int x1] i a q r (by rfl) ?_
  by_cases w1 : x1.toInt = 37
  ·
    refine ft_swx mi_k22 (pc := 1) (v := 37) (t := 177) (kj_eq w1 (by decide) : x1 = 37) (by decide +kernel) ?_
    refine ft_go mi_k22 1 178 [(0, .int x1), (1, .int x2), (2, .int x3)] [.int x3] i a q r (by rfl) ?_
    refine ft_if mi_k22 (x3 != 0) 185 181 [(0, .int x1), (1, .int x2), (2, .int x3)] [] (by rfl) (fun c => ?_) (fun c => ?_)
    ·
      have c2 : x3.toInt ≠ (0 : Int32).toInt := kd_ne c; clear c
      refine ft_go mi_k22 2 187 [(0, .int x1), (1, .int x2), (2, .int x3)] [.int x3, .int x2] i a q r (by rfl) ?_
      refine ko_irem mi_k22.1 (ax := (0, 0, 0, 0, 0)) (mi_k22.2 _ _ (by rfl)) (oz295 c2 kn0) ?_
      exact ft_ret mi_k22 (by rfl) (hP (x2 - x2 / x3 * x3) trivial)
    ·
      have c3 : x3.toInt = (0 : Int32).toInt := kd_neF c; clear c
      refine ft_go mi_k22 2 188 [(0, .int x1), (1, .int x2), (2, .int x3)] [.int 0] i a q r (by rfl) ?_
      exact ft_ret mi_k22 (by rfl) (hP 0 trivial)
  by_cases w4 : x1.toInt = 38
  ·
    refine ft_swx mi_k22 (pc := 1) (v := 38) (t := 106) (kj_eq w4 (by decide) : x1 = 38) (by decide +kernel) ?_
    refine ft_go mi_k22 1 107 [(0, .int x1), (1, .int x2), (2, .int x3)] [.int x2] i a q r (by rfl) ?_
    refine ft_if mi_k22 (x2 == 0) 118 110 [(0, .int x1), (1, .int x2), (2, .int x3)] [] (by rfl) (fun c => ?_) (fun c => ?_)
    ·
      have c5 : x2.toInt = (0 : Int32).toInt := kd_eq c; clear c
      refine ft_go mi_k22 1 119 [(0, .int x1), (1, .int x2), (2, .int x3)] [.int 0] i a q r (by rfl) ?_
      exact ft_ret mi_k22 (by rfl) (hP 0 trivial)
    ·
      have c6 : x2.toInt ≠ (0 : Int32).toInt := kd_eqF c; clear c
      refine ft_go mi_k22 1 111 [(0, .int x1), (1, .int x2), (2, .int x3)] [.int x3] i a q r (by rfl) ?_
      refine ft_if mi_k22 (x3 == 0) 118 114 [(0, .int x1), (1, .int x2), (2, .int x3)] [] (by rfl) (fun c => ?_) (fun c => ?_)
      ·
        have c7 : x3.toInt = (0 : Int32).toInt := kd_eq c; clear c
        refine ft_go mi_k22 1 119 [(0, .int x1), (1, .int x2), (2, .int x3)] [.int 0] i a q r (by rfl) ?_
        exact ft_ret mi_k22 (by rfl) (hP 0 trivial)
      ·
        have c8 : x3.toInt ≠ (0 : Int32).toInt := kd_eqF c; clear c
        refine ft_go mi_k22 2 119 [(0, .int x1), (1, .int x2), (2, .int x3)] [.int 1] i a q r (by rfl) ?_
        exact ft_ret mi_k22 (by rfl) (hP 1 trivial)
  by_cases w9 : x1.toInt = 42
  ·
    refine ft_swx mi_k22 (pc := 1) (v := 42) (t := 161) (kj_eq w9 (by decide) : x1 = 42) (by decide +kernel) ?_
    refine ft_go mi_k22 3 164 [(0, .int x1), (1, .int x2), (2, .int x3)] [.int (x2 * x3)] i a q r (by rfl) ?_
    exact ft_ret mi_k22 (by rfl) (hP (x2 * x3) trivial)
  by_cases w10 : x1.toInt = 43
  ·
    refine ko_eq (x1 := (1, [(0, .int x1), (1, .int x2), (2, .int x3)], [.int 43], (0, 0), ks i a q r)) (by rw [(kj_eq w10 (by decide) : x1 = 43)]) ?_
    have b11 : ((-2147483648 : Int) ≤ x2.toInt) ∧ (x2.toInt ≤ 2147483647) := kd_bd x2
    have b12 : ((-2147483648 : Int) ≤ x3.toInt) ∧ (x3.toInt ≤ 2147483647) := kd_bd x3
    refine ft_go mi_k22 4 156 [(0, .int x1), (1, .int x2), (2, .int x3)] [.int (x2 + x3)] i a q r (by rfl) ?_
    exact ft_ret mi_k22 (by rfl) (hP (x2 + x3) trivial)
  by_cases w13 : x1.toInt = 45
  ·
    refine ko_eq (x1 := (1, [(0, .int x1), (1, .int x2), (2, .int x3)], [.int 45], (0, 0), ks i a q r)) (by rw [(kj_eq w13 (by decide) : x1 = 45)]) ?_
    have b14 : ((-2147483648 : Int) ≤ x2.toInt) ∧ (x2.toInt ≤ 2147483647) := kd_bd x2
    have b15 : ((-2147483648 : Int) ≤ x3.toInt) ∧ (x3.toInt ≤ 2147483647) := kd_bd x3
    refine ft_go mi_k22 4 160 [(0, .int x1), (1, .int x2), (2, .int x3)] [.int (x2 - x3)] i a q r (by rfl) ?_
    exact ft_ret mi_k22 (by rfl) (hP (x2 - x3) trivial)
  by_cases w16 : x1.toInt = 47
  ·
    refine ft_swx mi_k22 (pc := 1) (v := 47) (t := 165) (kj_eq w16 (by decide) : x1 = 47) (by decide +kernel) ?_
    refine ft_go mi_k22 1 166 [(0, .int x1), (1, .int x2), (2, .int x3)] [.int x3] i a q r (by rfl) ?_
    refine ft_if mi_k22 (x3 != 0) 173 169 [(0, .int x1), (1, .int x2), (2, .int x3)] [] (by rfl) (fun c => ?_) (fun c => ?_)
    ·
      have c17 : x3.toInt ≠ (0 : Int32).toInt := kd_ne c; clear c
      refine ft_go mi_k22 2 175 [(0, .int x1), (1, .int x2), (2, .int x3)] [.int x3, .int x2] i a q r (by rfl) ?_
      refine ko_idiv mi_k22.1 (ax := (0, 0, 0, 0, 0)) (mi_k22.2 _ _ (by rfl)) (oz295 c17 kn0) ?_
      exact ft_ret mi_k22 (by rfl) (hP (x2 / x3) trivial)
    ·
      have c18 : x3.toInt = (0 : Int32).toInt := kd_neF c; clear c
      refine ft_go mi_k22 2 176 [(0, .int x1), (1, .int x2), (2, .int x3)] [.int 0] i a q r (by rfl) ?_
      exact ft_ret mi_k22 (by rfl) (hP 0 trivial)
  by_cases w19 : x1.toInt = 60
  ·
    refine ft_swx mi_k22 (pc := 1) (v := 60) (t := 120) (kj_eq w19 (by decide) : x1 = 60) (by decide +kernel) ?_
    refine ft_go mi_k22 2 122 [(0, .int x1), (1, .int x2), (2, .int x3)] [.int x3, .int x2] i a q r (by rfl) ?_
    refine ft_if mi_k22 (decide (x3 ≤ x2)) 129 125 [(0, .int x1), (1, .int x2), (2, .int x3)] [] (by rfl) (fun c => ?_) (fun c => ?_)
    ·
      have c20 : x3.toInt ≤ x2.toInt := kd_le c; clear c
      refine ft_go mi_k22 1 130 [(0, .int x1), (1, .int x2), (2, .int x3)] [.int 0] i a q r (by rfl) ?_
      exact ft_ret mi_k22 (by rfl) (hP 0 trivial)
    ·
      have c21 : x2.toInt < x3.toInt := kd_leF c; clear c
      refine ft_go mi_k22 2 130 [(0, .int x1), (1, .int x2), (2, .int x3)] [.int 1] i a q r (by rfl) ?_
      exact ft_ret mi_k22 (by rfl) (hP 1 trivial)
  by_cases w22 : x1.toInt = 61
  ·
    refine ft_swx mi_k22 (pc := 1) (v := 61) (t := 131) (kj_eq w22 (by decide) : x1 = 61) (by decide +kernel) ?_
    refine ft_go mi_k22 2 133 [(0, .int x1), (1, .int x2), (2, .int x3)] [.int x3, .int x2] i a q r (by rfl) ?_
    refine ft_if mi_k22 (x2 != x3) 140 136 [(0, .int x1), (1, .int x2), (2, .int x3)] [] (by rfl) (fun c => ?_) (fun c => ?_)
    ·
      have c23 : x2.toInt ≠ x3.toInt := kd_ne c; clear c
      refine ft_go mi_k22 1 141 [(0, .int x1), (1, .int x2), (2, .int x3)] [.int 0] i a q r (by rfl) ?_
      exact ft_ret mi_k22 (by rfl) (hP 0 trivial)
    ·
      have c24 : x2.toInt = x3.toInt := kd_neF c; clear c
      refine ft_go mi_k22 2 141 [(0, .int x1), (1, .int x2), (2, .int x3)] [.int 1] i a q r (by rfl) ?_
      exact ft_ret mi_k22 (by rfl) (hP 1 trivial)
  by_cases w25 : x1.toInt = 62
  ·
    refine ft_swx mi_k22 (pc := 1) (v := 62) (t := 142) (kj_eq w25 (by decide) : x1 = 62) (by decide +kernel) ?_
    refine ft_go mi_k22 2 144 [(0, .int x1), (1, .int x2), (2, .int x3)] [.int x3, .int x2] i a q r (by rfl) ?_
    refine ft_if mi_k22 (decide (x2 ≤ x3)) 151 147 [(0, .int x1), (1, .int x2), (2, .int x3)] [] (by rfl) (fun c => ?_) (fun c => ?_)
    ·
      have c26 : x2.toInt ≤ x3.toInt := kd_le c; clear c
      refine ft_go mi_k22 1 152 [(0, .int x1), (1, .int x2), (2, .int x3)] [.int 0] i a q r (by rfl) ?_
      exact ft_ret mi_k22 (by rfl) (hP 0 trivial)
    ·
      have c27 : x3.toInt < x2.toInt := kd_leF c; clear c
      refine ft_go mi_k22 2 152 [(0, .int x1), (1, .int x2), (2, .int x3)] [.int 1] i a q r (by rfl) ?_
      exact ft_ret mi_k22 (by rfl) (hP 1 trivial)
  by_cases w28 : x1.toInt = 124
  ·
    refine ft_swx mi_k22 (pc := 1) (v := 124) (t := 92) (kj_eq w28 (by decide) : x1 = 124) (by decide +kernel) ?_
    refine ft_go mi_k22 1 93 [(0, .int x1), (1, .int x2), (2, .int x3)] [.int x2] i a q r (by rfl) ?_
    refine ft_if mi_k22 (x2 != 0) 100 96 [(0, .int x1), (1, .int x2), (2, .int x3)] [] (by rfl) (fun c => ?_) (fun c => ?_)
    ·
      have c29 : x2.toInt ≠ (0 : Int32).toInt := kd_ne c; clear c
      refine ft_go mi_k22 2 105 [(0, .int x1), (1, .int x2), (2, .int x3)] [.int 1] i a q r (by rfl) ?_
      exact ft_ret mi_k22 (by rfl) (hP 1 trivial)
    ·
      have c30 : x2.toInt = (0 : Int32).toInt := kd_neF c; clear c
      refine ft_go mi_k22 1 97 [(0, .int x1), (1, .int x2), (2, .int x3)] [.int x3] i a q r (by rfl) ?_
      refine ft_if mi_k22 (x3 == 0) 104 100 [(0, .int x1), (1, .int x2), (2, .int x3)] [] (by rfl) (fun c => ?_) (fun c => ?_)
      ·
        have c31 : x3.toInt = (0 : Int32).toInt := kd_eq c; clear c
        refine ft_go mi_k22 1 105 [(0, .int x1), (1, .int x2), (2, .int x3)] [.int 0] i a q r (by rfl) ?_
        exact ft_ret mi_k22 (by rfl) (hP 0 trivial)
      ·
        have c32 : x3.toInt ≠ (0 : Int32).toInt := kd_eqF c; clear c
        refine ft_go mi_k22 2 105 [(0, .int x1), (1, .int x2), (2, .int x3)] [.int 1] i a q r (by rfl) ?_
        exact ft_ret mi_k22 (by rfl) (hP 1 trivial)
  refine ko_lsw (ls := [(0, .int x1), (1, .int x2), (2, .int x3)]) (r := []) (h := ks i a q r) mi_in22 (v := x1) (i := (.lookupswitch 188 #[(37, 176), (38, 105), (42, 160), (43, 152), (45, 156), (47, 164), (60, 119), (61, 130), (62, 141), (124, 91)], 91, 0, 0, 0, 0, 0)) (by rfl) rfl (by simp only [Op.lookupswitch.offset, if_neg (Ne.symm w1), if_neg (Ne.symm w4), if_neg (Ne.symm w9), if_neg (Ne.symm w10), if_neg (Ne.symm w13), if_neg (Ne.symm w16), if_neg (Ne.symm w19), if_neg (Ne.symm w22), if_neg (Ne.symm w25), if_neg (Ne.symm w28)] <;> rfl) 189 (by rfl) ?_
  refine ft_go mi_k22 1 190 [(0, .int x1), (1, .int x2), (2, .int x3)] [.int 0] i a q r (by rfl) ?_
  exact ft_ret mi_k22 (by rfl) (hP 0 trivial)
def w21_59_73 : kW := ([3781], [62], [], [])
def w21_59_73_L9 : kW := ([3781], [62], [], [])
set_option maxRecDepth 100000 in
theorem kc21_59_73 {i : Nat → Int32} {a : Nat → List Int32} {q : Nat → List Int64} {r : Nat → Nat} (hI : kI i a q) (hr : kr r)  : km 3 21 [.ref 59, .ref 73] (ks i a q r) (kVI w21_59_73 i a q r (fun v i1 a1 q1 r1 => True)) := by
  have hG := kG_self w21_59_73 hI hr
  refine km_ofI (q := (mi_h21, mi_c21)) rfl (by decide) (Nat.le_of_ble_eq_true rfl) ?_
  intro P hP
  have hJ1 := kG_i hG 3781 rfl (v := 0) ⟨(oz46 kn0), (oz1033 kn0)⟩
  first | refine ft_go mi_k21 7 9 [(3, .int 0), (2, .int 0), (0, .ref 59), (1, .ref 73)] [] (ku i 3781 0) a q r (by rfl) ?_ | refine ko_steps mi_in21 7 _ (9, [(3, .int 0), (2, .int 0), (0, .ref 59), (1, .ref 73)], [], (0, 0), ks (ku i 3781 0) a q r) (by rfl) ?_
  have lp2 : ∀ (nz : Nat) (i2 : Nat → Int32) (a2 : Nat → List Int32) (q2 : Nat → List Int64) (r2 : Nat → Nat) (l3_2 : Int32) (l2_2 : Int32), kG w21_59_73_L9 (ku i 3781 0) a q r i2 a2 q2 r2 → (0 : Int) ≤ l3_2.toInt → ((121 - l3_2.toInt)).toNat < nz → ko 3 (mi_h21, mi_c21) P (9, [(3, .int l3_2), (2, .int l2_2), (0, .ref 59), (1, .ref 73)], [], (0, 0), ks i2 a2 q2 r2) := by
    intro nz
    induction nz with
    | zero =>
      intro _ _ _ _ _ _ _ _ hm
      exact absurd hm (Nat.not_lt_zero _)
    | succ nz ih2 =>
      intro i2 a2 q2 r2 l3_2 l2_2 hL2 p2_0 hm2
      first | refine ft_go mi_k21 2 12 [(3, .int l3_2), (2, .int l2_2), (0, .ref 59), (1, .ref 73)] [.int 121, .int l3_2] i2 a2 q2 r2 (by rfl) ?_ | refine ko_steps mi_in21 2 _ (12, [(3, .int l3_2), (2, .int l2_2), (0, .ref 59), (1, .ref 73)], [.int 121, .int l3_2], (0, 0), ks i2 a2 q2 r2) (by rfl) ?_
      refine ft_if mi_k21 (decide (121 ≤ l3_2)) 220 15 [(3, .int l3_2), (2, .int l2_2), (0, .ref 59), (1, .ref 73)] [] (by rfl) (fun c => ?_) (fun c => ?_)
      ·
        have c3 : (121 : Int32).toInt ≤ l3_2.toInt := kd_le c; clear c
        have hG4 := kG_call hJ1 hL2 (by decide +kernel)
        first | refine ft_go mi_k21 1 221 [(3, .int l3_2), (2, .int l2_2), (0, .ref 59), (1, .ref 73)] [.int 0] i2 a2 q2 r2 (by rfl) ?_ | refine ko_steps mi_in21 1 _ (221, [(3, .int l3_2), (2, .int l2_2), (0, .ref 59), (1, .ref 73)], [.int 0], (0, 0), ks i2 a2 q2 r2) (by rfl) ?_
        exact ft_ret mi_k21 (by rfl) (hP 0 _ _ _ _ hG4 trivial)
      ·
        have c5 : l3_2.toInt < (121 : Int32).toInt := kd_leF c; clear c
        first | refine ft_go mi_k21 1 16 [(3, .int l3_2), (2, .int l2_2), (0, .ref 59), (1, .ref 73)] [.int l2_2] i2 a2 q2 r2 (by rfl) ?_ | refine ko_steps mi_in21 1 _ (16, [(3, .int l3_2), (2, .int l2_2), (0, .ref 59), (1, .ref 73)], [.int l2_2], (0, 0), ks i2 a2 q2 r2) (by rfl) ?_
        refine ft_if mi_k21 (decide (l2_2 < 0)) 220 19 [(3, .int l3_2), (2, .int l2_2), (0, .ref 59), (1, .ref 73)] [] (by rfl) (fun c => ?_) (fun c => ?_)
        ·
          have c6 : l2_2.toInt < (0 : Int32).toInt := kd_lt c; clear c
          have hG7 := kG_call hJ1 hL2 (by decide +kernel)
          first | refine ft_go mi_k21 1 221 [(3, .int l3_2), (2, .int l2_2), (0, .ref 59), (1, .ref 73)] [.int 0] i2 a2 q2 r2 (by rfl) ?_ | refine ko_steps mi_in21 1 _ (221, [(3, .int l3_2), (2, .int l2_2), (0, .ref 59), (1, .ref 73)], [.int 0], (0, 0), ks i2 a2 q2 r2) (by rfl) ?_
          exact ft_ret mi_k21 (by rfl) (hP 0 _ _ _ _ hG7 trivial)
        ·
          have c8 : (0 : Int32).toInt ≤ l2_2.toInt := kd_ltF c; clear c
          have fi2_3779 : ((0 : Int) ≤ (i2 3779).toInt) ∧ ((i2 3779).toInt ≤ 121) := hL2.I.1 3779
          first | refine ft_go mi_k21 3 24 [(3, .int l3_2), (2, .int l2_2), (0, .ref 59), (1, .ref 73)] [.int (i2 3779), .int l2_2] i2 a2 q2 r2 (by rfl) ?_ | refine ko_steps mi_in21 3 _ (24, [(3, .int l3_2), (2, .int l2_2), (0, .ref 59), (1, .ref 73)], [.int (i2 3779), .int l2_2], (0, 0), ks i2 a2 q2 r2) (by rfl) ?_
          refine ft_if mi_k21 (decide ((i2 3779) ≤ l2_2)) 220 27 [(3, .int l3_2), (2, .int l2_2), (0, .ref 59), (1, .ref 73)] [] (by rfl) (fun c => ?_) (fun c => ?_)
          ·
            have c9 : (i2 3779).toInt ≤ l2_2.toInt := kd_le c; clear c
            have hG10 := kG_call hJ1 hL2 (by decide +kernel)
            first | refine ft_go mi_k21 1 221 [(3, .int l3_2), (2, .int l2_2), (0, .ref 59), (1, .ref 73)] [.int 0] i2 a2 q2 r2 (by rfl) ?_ | refine ko_steps mi_in21 1 _ (221, [(3, .int l3_2), (2, .int l2_2), (0, .ref 59), (1, .ref 73)], [.int 0], (0, 0), ks i2 a2 q2 r2) (by rfl) ?_
            exact ft_ret mi_k21 (by rfl) (hP 0 _ _ _ _ hG10 trivial)
          ·
            have c11 : l2_2.toInt < (i2 3779).toInt := kd_leF c; clear c
            first | refine ft_go mi_k21 3 32 [(3, .int l3_2), (2, .int l2_2), (0, .ref 59), (1, .ref 73)] [.int l2_2, .ref 60] i2 a2 q2 r2 (by rfl) ?_ | refine ko_steps mi_in21 3 _ (32, [(3, .int l3_2), (2, .int l2_2), (0, .ref 59), (1, .ref 73)], [.int l2_2, .ref 60], (0, 0), ks i2 a2 q2 r2) (by rfl) ?_
            refine ko_iald3 mi_k21.1 (n := 121) (c := 121) (ax := (0, 0, 0, 0, 0)) (mi_k21.2 _ _ (by rfl)) (by rfl) (ksG60 _ _ _ _) (hL2.I.2.1 60) rfl (oz389 c8 kn0) (oz1034 c11 fi2_3779.2) ?_
            first | refine ft_go mi_k21 4 40 [(4, .int ((a2 60).getD l2_2.toNatClampNeg 0)), (3, .int l3_2), (2, .int l2_2), (0, .ref 59), (1, .ref 73)] [.int l2_2, .ref 61] i2 a2 q2 r2 (by rfl) ?_ | refine ko_steps mi_in21 4 _ (40, [(4, .int ((a2 60).getD l2_2.toNatClampNeg 0)), (3, .int l3_2), (2, .int l2_2), (0, .ref 59), (1, .ref 73)], [.int l2_2, .ref 61], (0, 0), ks i2 a2 q2 r2) (by rfl) ?_
            refine ko_iald3 mi_k21.1 (n := 121) (c := 121) (ax := (0, 0, 0, 0, 0)) (mi_k21.2 _ _ (by rfl)) (by rfl) (ksG61 _ _ _ _) (hL2.I.2.1 61) rfl (oz389 c8 kn0) (oz1034 c11 fi2_3779.2) ?_
            have s12 : (l2_2 + 1).toInt = l2_2.toInt + (1 : Int32).toInt := kd_add (oz950 c8 kn0 kn1) (oz1035 c11 fi2_3779.2 kn1)
            first | refine ft_go mi_k21 3 48 [(2, .int (l2_2 + 1)), (5, .int ((a2 61).getD l2_2.toNatClampNeg 0)), (4, .int ((a2 60).getD l2_2.toNatClampNeg 0)), (3, .int l3_2), (0, .ref 59), (1, .ref 73)] [.int ((a2 60).getD l2_2.toNatClampNeg 0)] i2 a2 q2 r2 (by rfl) ?_ | refine ko_steps mi_in21 3 _ (48, [(2, .int (l2_2 + 1)), (5, .int ((a2 61).getD l2_2.toNatClampNeg 0)), (4, .int ((a2 60).getD l2_2.toNatClampNeg 0)), (3, .int l3_2), (0, .ref 59), (1, .ref 73)], [.int ((a2 60).getD l2_2.toNatClampNeg 0)], (0, 0), ks i2 a2 q2 r2) (by rfl) ?_
            by_cases w13 : ((a2 60).getD l2_2.toNatClampNeg 0).toInt = 0
            ·
              refine ft_swx mi_k21 (pc := 48) (v := 0) (t := 108) (kj_eq w13 (by decide) : ((a2 60).getD l2_2.toNatClampNeg 0) = 0) (by decide +kernel) ?_
              first | refine ft_go mi_k21 2 111 [(2, .int (l2_2 + 1)), (5, .int ((a2 61).getD l2_2.toNatClampNeg 0)), (4, .int ((a2 60).getD l2_2.toNatClampNeg 0)), (3, .int l3_2), (0, .ref 59), (1, .ref 73)] [.int ((a2 61).getD l2_2.toNatClampNeg 0), .ref 59] i2 a2 q2 r2 (by rfl) ?_ | refine ko_steps mi_in21 2 _ (111, [(2, .int (l2_2 + 1)), (5, .int ((a2 61).getD l2_2.toNatClampNeg 0)), (4, .int ((a2 60).getD l2_2.toNatClampNeg 0)), (3, .int l3_2), (0, .ref 59), (1, .ref 73)], [.int ((a2 61).getD l2_2.toNatClampNeg 0), .ref 59], (0, 0), ks i2 a2 q2 r2) (by rfl) ?_
              refine ko_callN mi_k21.1 (pc := 111) (ls := [(2, .int (l2_2 + 1)), (5, .int ((a2 61).getD l2_2.toNatClampNeg 0)), (4, .int ((a2 60).getD l2_2.toNatClampNeg 0)), (3, .int l3_2), (0, .ref 59), (1, .ref 73)]) (st := [.int ((a2 61).getD l2_2.toNatClampNeg 0), .ref 59]) (h := ks i2 a2 q2 r2) (i := (.invokevirtual 32, 3, 19, 0, 9, 0, 225)) (mi_k21.2 _ _ (by rfl)) (ft_invS mi_pq19 (by rfl)) (cy := mi_c19) mi_pq19 rfl (kc19_59 hL2.I hL2.R ((a2 61).getD l2_2.toNatClampNeg 0)) (by decide) ?_
              intro ig14 ag14 qg14 rg14 kg14 hg14
              have hGg14 := kG_call hL2 kg14 (by decide +kernel)
              have s15 : (l3_2 + 1).toInt = l3_2.toInt + (1 : Int32).toInt := kd_add (oz12 p2_0 kn1) (oz1036 c5 kn121 kn1)
              first | refine ft_go mi_k21 3 9 [(3, .int (l3_2 + 1)), (2, .int (l2_2 + 1)), (5, .int ((a2 61).getD l2_2.toNatClampNeg 0)), (4, .int ((a2 60).getD l2_2.toNatClampNeg 0)), (0, .ref 59), (1, .ref 73)] [] ig14 ag14 qg14 rg14 (by rfl) ?_ | refine ko_steps mi_in21 3 _ (9, [(3, .int (l3_2 + 1)), (2, .int (l2_2 + 1)), (5, .int ((a2 61).getD l2_2.toNatClampNeg 0)), (4, .int ((a2 60).getD l2_2.toNatClampNeg 0)), (0, .ref 59), (1, .ref 73)], [], (0, 0), ks ig14 ag14 qg14 rg14) (by rfl) ?_
              refine ko_perm [(3, .int (l3_2 + 1)), (2, .int (l2_2 + 1)), (0, .ref 59), (1, .ref 73)] (List.forall_mem_cons.mpr ⟨(List.Mem.head _), (List.forall_mem_cons.mpr ⟨(List.Mem.tail _ (List.Mem.head _)), (List.forall_mem_cons.mpr ⟨(List.Mem.tail _ (List.Mem.tail _ (List.Mem.tail _ (List.Mem.tail _ (List.Mem.head _))))), (List.forall_mem_cons.mpr ⟨(List.Mem.tail _ (List.Mem.tail _ (List.Mem.tail _ (List.Mem.tail _ (List.Mem.tail _ (List.Mem.head _)))))), (fun _ h => absurd h List.not_mem_nil)⟩)⟩)⟩)⟩) ?_
              exact ih2 _ _ _ _ _ _ hGg14 (oz14 p2_0 s15 kn1) (kj_meas (oz1037 s15 kn1) (oz1038 c5 kn121) hm2)
            by_cases w16 : ((a2 60).getD l2_2.toNatClampNeg 0).toInt = 1
            ·
              refine ft_swx mi_k21 (pc := 48) (v := 1) (t := 117) (kj_eq w16 (by decide) : ((a2 60).getD l2_2.toNatClampNeg 0) = 1) (by decide +kernel) ?_
              first | refine ft_go mi_k21 2 120 [(2, .int (l2_2 + 1)), (5, .int ((a2 61).getD l2_2.toNatClampNeg 0)), (4, .int ((a2 60).getD l2_2.toNatClampNeg 0)), (3, .int l3_2), (0, .ref 59), (1, .ref 73)] [.int ((a2 61).getD l2_2.toNatClampNeg 0), .ref 59] i2 a2 q2 r2 (by rfl) ?_ | refine ko_steps mi_in21 2 _ (120, [(2, .int (l2_2 + 1)), (5, .int ((a2 61).getD l2_2.toNatClampNeg 0)), (4, .int ((a2 60).getD l2_2.toNatClampNeg 0)), (3, .int l3_2), (0, .ref 59), (1, .ref 73)], [.int ((a2 61).getD l2_2.toNatClampNeg 0), .ref 59], (0, 0), ks i2 a2 q2 r2) (by rfl) ?_
              refine ft_if mi_k21 (decide (((a2 61).getD l2_2.toNatClampNeg 0) < 0)) 137 123 [(2, .int (l2_2 + 1)), (5, .int ((a2 61).getD l2_2.toNatClampNeg 0)), (4, .int ((a2 60).getD l2_2.toNatClampNeg 0)), (3, .int l3_2), (0, .ref 59), (1, .ref 73)] [.ref 59] (by rfl) (fun c => ?_) (fun c => ?_)
              ·
                have c17 : ((a2 61).getD l2_2.toNatClampNeg 0).toInt < (0 : Int32).toInt := kd_lt c; clear c
                first | refine ft_go mi_k21 1 138 [(2, .int (l2_2 + 1)), (5, .int ((a2 61).getD l2_2.toNatClampNeg 0)), (4, .int ((a2 60).getD l2_2.toNatClampNeg 0)), (3, .int l3_2), (0, .ref 59), (1, .ref 73)] [.int 0, .ref 59] i2 a2 q2 r2 (by rfl) ?_ | refine ko_steps mi_in21 1 _ (138, [(2, .int (l2_2 + 1)), (5, .int ((a2 61).getD l2_2.toNatClampNeg 0)), (4, .int ((a2 60).getD l2_2.toNatClampNeg 0)), (3, .int l3_2), (0, .ref 59), (1, .ref 73)], [.int 0, .ref 59], (0, 0), ks i2 a2 q2 r2) (by rfl) ?_
                refine ko_callN mi_k21.1 (pc := 138) (ls := [(2, .int (l2_2 + 1)), (5, .int ((a2 61).getD l2_2.toNatClampNeg 0)), (4, .int ((a2 60).getD l2_2.toNatClampNeg 0)), (3, .int l3_2), (0, .ref 59), (1, .ref 73)]) (st := [.int 0, .ref 59]) (h := ks i2 a2 q2 r2) (i := (.invokevirtual 32, 3, 19, 0, 9, 0, 225)) (mi_k21.2 _ _ (by rfl)) (ft_invS mi_pq19 (by rfl)) (cy := mi_c19) mi_pq19 rfl (kc19_59 hL2.I hL2.R 0) (by decide) ?_
                intro ig18 ag18 qg18 rg18 kg18 hg18
                have hGg18 := kG_call hL2 kg18 (by decide +kernel)
                have s19 : (l3_2 + 1).toInt = l3_2.toInt + (1 : Int32).toInt := kd_add (oz12 p2_0 kn1) (oz1036 c5 kn121 kn1)
                first | refine ft_go mi_k21 3 9 [(3, .int (l3_2 + 1)), (2, .int (l2_2 + 1)), (5, .int ((a2 61).getD l2_2.toNatClampNeg 0)), (4, .int ((a2 60).getD l2_2.toNatClampNeg 0)), (0, .ref 59), (1, .ref 73)] [] ig18 ag18 qg18 rg18 (by rfl) ?_ | refine ko_steps mi_in21 3 _ (9, [(3, .int (l3_2 + 1)), (2, .int (l2_2 + 1)), (5, .int ((a2 61).getD l2_2.toNatClampNeg 0)), (4, .int ((a2 60).getD l2_2.toNatClampNeg 0)), (0, .ref 59), (1, .ref 73)], [], (0, 0), ks ig18 ag18 qg18 rg18) (by rfl) ?_
                refine ko_perm [(3, .int (l3_2 + 1)), (2, .int (l2_2 + 1)), (0, .ref 59), (1, .ref 73)] (List.forall_mem_cons.mpr ⟨(List.Mem.head _), (List.forall_mem_cons.mpr ⟨(List.Mem.tail _ (List.Mem.head _)), (List.forall_mem_cons.mpr ⟨(List.Mem.tail _ (List.Mem.tail _ (List.Mem.tail _ (List.Mem.tail _ (List.Mem.head _))))), (List.forall_mem_cons.mpr ⟨(List.Mem.tail _ (List.Mem.tail _ (List.Mem.tail _ (List.Mem.tail _ (List.Mem.tail _ (List.Mem.head _)))))), (fun _ h => absurd h List.not_mem_nil)⟩)⟩)⟩)⟩) ?_
                exact ih2 _ _ _ _ _ _ hGg18 (oz14 p2_0 s19 kn1) (kj_meas (oz1037 s19 kn1) (oz1038 c5 kn121) hm2)
              ·
                have c20 : (0 : Int32).toInt ≤ ((a2 61).getD l2_2.toNatClampNeg 0).toInt := kd_ltF c; clear c
                first | refine ft_go mi_k21 2 126 [(2, .int (l2_2 + 1)), (5, .int ((a2 61).getD l2_2.toNatClampNeg 0)), (4, .int ((a2 60).getD l2_2.toNatClampNeg 0)), (3, .int l3_2), (0, .ref 59), (1, .ref 73)] [.ref 73, .int ((a2 61).getD l2_2.toNatClampNeg 0), .ref 59] i2 a2 q2 r2 (by rfl) ?_ | refine ko_steps mi_in21 2 _ (126, [(2, .int (l2_2 + 1)), (5, .int ((a2 61).getD l2_2.toNatClampNeg 0)), (4, .int ((a2 60).getD l2_2.toNatClampNeg 0)), (3, .int l3_2), (0, .ref 59), (1, .ref 73)], [.ref 73, .int ((a2 61).getD l2_2.toNatClampNeg 0), .ref 59], (0, 0), ks i2 a2 q2 r2) (by rfl) ?_
                refine ko_alen mi_k21.1 (l := a2 73) (ax := (0, 0, 0, 0, 0)) (x := 6) (mi_k21.2 _ _ (by rfl)) (by rfl) (by rfl) (by rw [(hL2.I.2.1 73 : (a2 73).length = _)]; rfl) ?_
                refine ft_if mi_k21 (decide (6 ≤ ((a2 61).getD l2_2.toNatClampNeg 0))) 137 130 [(2, .int (l2_2 + 1)), (5, .int ((a2 61).getD l2_2.toNatClampNeg 0)), (4, .int ((a2 60).getD l2_2.toNatClampNeg 0)), (3, .int l3_2), (0, .ref 59), (1, .ref 73)] [.ref 59] (by rfl) (fun c => ?_) (fun c => ?_)
                ·
                  have c21 : (6 : Int32).toInt ≤ ((a2 61).getD l2_2.toNatClampNeg 0).toInt := kd_le c; clear c
                  first | refine ft_go mi_k21 1 138 [(2, .int (l2_2 + 1)), (5, .int ((a2 61).getD l2_2.toNatClampNeg 0)), (4, .int ((a2 60).getD l2_2.toNatClampNeg 0)), (3, .int l3_2), (0, .ref 59), (1, .ref 73)] [.int 0, .ref 59] i2 a2 q2 r2 (by rfl) ?_ | refine ko_steps mi_in21 1 _ (138, [(2, .int (l2_2 + 1)), (5, .int ((a2 61).getD l2_2.toNatClampNeg 0)), (4, .int ((a2 60).getD l2_2.toNatClampNeg 0)), (3, .int l3_2), (0, .ref 59), (1, .ref 73)], [.int 0, .ref 59], (0, 0), ks i2 a2 q2 r2) (by rfl) ?_
                  refine ko_callN mi_k21.1 (pc := 138) (ls := [(2, .int (l2_2 + 1)), (5, .int ((a2 61).getD l2_2.toNatClampNeg 0)), (4, .int ((a2 60).getD l2_2.toNatClampNeg 0)), (3, .int l3_2), (0, .ref 59), (1, .ref 73)]) (st := [.int 0, .ref 59]) (h := ks i2 a2 q2 r2) (i := (.invokevirtual 32, 3, 19, 0, 9, 0, 225)) (mi_k21.2 _ _ (by rfl)) (ft_invS mi_pq19 (by rfl)) (cy := mi_c19) mi_pq19 rfl (kc19_59 hL2.I hL2.R 0) (by decide) ?_
                  intro ig22 ag22 qg22 rg22 kg22 hg22
                  have hGg22 := kG_call hL2 kg22 (by decide +kernel)
                  have s23 : (l3_2 + 1).toInt = l3_2.toInt + (1 : Int32).toInt := kd_add (oz12 p2_0 kn1) (oz1036 c5 kn121 kn1)
                  first | refine ft_go mi_k21 3 9 [(3, .int (l3_2 + 1)), (2, .int (l2_2 + 1)), (5, .int ((a2 61).getD l2_2.toNatClampNeg 0)), (4, .int ((a2 60).getD l2_2.toNatClampNeg 0)), (0, .ref 59), (1, .ref 73)] [] ig22 ag22 qg22 rg22 (by rfl) ?_ | refine ko_steps mi_in21 3 _ (9, [(3, .int (l3_2 + 1)), (2, .int (l2_2 + 1)), (5, .int ((a2 61).getD l2_2.toNatClampNeg 0)), (4, .int ((a2 60).getD l2_2.toNatClampNeg 0)), (0, .ref 59), (1, .ref 73)], [], (0, 0), ks ig22 ag22 qg22 rg22) (by rfl) ?_
                  refine ko_perm [(3, .int (l3_2 + 1)), (2, .int (l2_2 + 1)), (0, .ref 59), (1, .ref 73)] (List.forall_mem_cons.mpr ⟨(List.Mem.head _), (List.forall_mem_cons.mpr ⟨(List.Mem.tail _ (List.Mem.head _)), (List.forall_mem_cons.mpr ⟨(List.Mem.tail _ (List.Mem.tail _ (List.Mem.tail _ (List.Mem.tail _ (List.Mem.head _))))), (List.forall_mem_cons.mpr ⟨(List.Mem.tail _ (List.Mem.tail _ (List.Mem.tail _ (List.Mem.tail _ (List.Mem.tail _ (List.Mem.head _)))))), (fun _ h => absurd h List.not_mem_nil)⟩)⟩)⟩)⟩) ?_
                  exact ih2 _ _ _ _ _ _ hGg22 (oz14 p2_0 s23 kn1) (kj_meas (oz1037 s23 kn1) (oz1038 c5 kn121) hm2)
                ·
                  have c24 : ((a2 61).getD l2_2.toNatClampNeg 0).toInt < (6 : Int32).toInt := kd_leF c; clear c
                  first | refine ft_go mi_k21 2 133 [(2, .int (l2_2 + 1)), (5, .int ((a2 61).getD l2_2.toNatClampNeg 0)), (4, .int ((a2 60).getD l2_2.toNatClampNeg 0)), (3, .int l3_2), (0, .ref 59), (1, .ref 73)] [.int ((a2 61).getD l2_2.toNatClampNeg 0), .ref 73, .ref 59] i2 a2 q2 r2 (by rfl) ?_ | refine ko_steps mi_in21 2 _ (133, [(2, .int (l2_2 + 1)), (5, .int ((a2 61).getD l2_2.toNatClampNeg 0)), (4, .int ((a2 60).getD l2_2.toNatClampNeg 0)), (3, .int l3_2), (0, .ref 59), (1, .ref 73)], [.int ((a2 61).getD l2_2.toNatClampNeg 0), .ref 73, .ref 59], (0, 0), ks i2 a2 q2 r2) (by rfl) ?_
                  refine ko_iald3 mi_k21.1 (n := 6) (c := 6) (ax := (0, 0, 0, 0, 0)) (mi_k21.2 _ _ (by rfl)) (by rfl) (ksG73 _ _ _ _) (hL2.I.2.1 73) rfl (oz389 c20 kn0) (oz1039 c24 kn6) ?_
                  first | refine ft_go mi_k21 1 138 [(2, .int (l2_2 + 1)), (5, .int ((a2 61).getD l2_2.toNatClampNeg 0)), (4, .int ((a2 60).getD l2_2.toNatClampNeg 0)), (3, .int l3_2), (0, .ref 59), (1, .ref 73)] [.int ((a2 73).getD ((a2 61).getD l2_2.toNatClampNeg 0).toNatClampNeg 0), .ref 59] i2 a2 q2 r2 (by rfl) ?_ | refine ko_steps mi_in21 1 _ (138, [(2, .int (l2_2 + 1)), (5, .int ((a2 61).getD l2_2.toNatClampNeg 0)), (4, .int ((a2 60).getD l2_2.toNatClampNeg 0)), (3, .int l3_2), (0, .ref 59), (1, .ref 73)], [.int ((a2 73).getD ((a2 61).getD l2_2.toNatClampNeg 0).toNatClampNeg 0), .ref 59], (0, 0), ks i2 a2 q2 r2) (by rfl) ?_
                  refine ko_callN mi_k21.1 (pc := 138) (ls := [(2, .int (l2_2 + 1)), (5, .int ((a2 61).getD l2_2.toNatClampNeg 0)), (4, .int ((a2 60).getD l2_2.toNatClampNeg 0)), (3, .int l3_2), (0, .ref 59), (1, .ref 73)]) (st := [.int ((a2 73).getD ((a2 61).getD l2_2.toNatClampNeg 0).toNatClampNeg 0), .ref 59]) (h := ks i2 a2 q2 r2) (i := (.invokevirtual 32, 3, 19, 0, 9, 0, 225)) (mi_k21.2 _ _ (by rfl)) (ft_invS mi_pq19 (by rfl)) (cy := mi_c19) mi_pq19 rfl (kc19_59 hL2.I hL2.R ((a2 73).getD ((a2 61).getD l2_2.toNatClampNeg 0).toNatClampNeg 0)) (by decide) ?_
                  intro ig25 ag25 qg25 rg25 kg25 hg25
                  have hGg25 := kG_call hL2 kg25 (by decide +kernel)
                  have s26 : (l3_2 + 1).toInt = l3_2.toInt + (1 : Int32).toInt := kd_add (oz12 p2_0 kn1) (oz1036 c5 kn121 kn1)
                  first | refine ft_go mi_k21 3 9 [(3, .int (l3_2 + 1)), (2, .int (l2_2 + 1)), (5, .int ((a2 61).getD l2_2.toNatClampNeg 0)), (4, .int ((a2 60).getD l2_2.toNatClampNeg 0)), (0, .ref 59), (1, .ref 73)] [] ig25 ag25 qg25 rg25 (by rfl) ?_ | refine ko_steps mi_in21 3 _ (9, [(3, .int (l3_2 + 1)), (2, .int (l2_2 + 1)), (5, .int ((a2 61).getD l2_2.toNatClampNeg 0)), (4, .int ((a2 60).getD l2_2.toNatClampNeg 0)), (0, .ref 59), (1, .ref 73)], [], (0, 0), ks ig25 ag25 qg25 rg25) (by rfl) ?_
                  refine ko_perm [(3, .int (l3_2 + 1)), (2, .int (l2_2 + 1)), (0, .ref 59), (1, .ref 73)] (List.forall_mem_cons.mpr ⟨(List.Mem.head _), (List.forall_mem_cons.mpr ⟨(List.Mem.tail _ (List.Mem.head _)), (List.forall_mem_cons.mpr ⟨(List.Mem.tail _ (List.Mem.tail _ (List.Mem.tail _ (List.Mem.tail _ (List.Mem.head _))))), (List.forall_mem_cons.mpr ⟨(List.Mem.tail _ (List.Mem.tail _ (List.Mem.tail _ (List.Mem.tail _ (List.Mem.tail _ (List.Mem.head _)))))), (fun _ h => absurd h List.not_mem_nil)⟩)⟩)⟩)⟩) ?_
                  exact ih2 _ _ _ _ _ _ hGg25 (oz14 p2_0 s26 kn1) (kj_meas (oz1037 s26 kn1) (oz1038 c5 kn121) hm2)
            by_cases w27 : ((a2 60).getD l2_2.toNatClampNeg 0).toInt = 2
            ·
              refine ft_swx mi_k21 (pc := 48) (v := 2) (t := 144) (kj_eq w27 (by decide) : ((a2 60).getD l2_2.toNatClampNeg 0) = 2) (by decide +kernel) ?_
              have hG28 := kG_call hJ1 hL2 (by decide +kernel)
              first | refine ft_go mi_k21 1 145 [(2, .int (l2_2 + 1)), (5, .int ((a2 61).getD l2_2.toNatClampNeg 0)), (4, .int ((a2 60).getD l2_2.toNatClampNeg 0)), (3, .int l3_2), (0, .ref 59), (1, .ref 73)] [.ref 59] i2 a2 q2 r2 (by rfl) ?_ | refine ko_steps mi_in21 1 _ (145, [(2, .int (l2_2 + 1)), (5, .int ((a2 61).getD l2_2.toNatClampNeg 0)), (4, .int ((a2 60).getD l2_2.toNatClampNeg 0)), (3, .int l3_2), (0, .ref 59), (1, .ref 73)], [.ref 59], (0, 0), ks i2 a2 q2 r2) (by rfl) ?_
              refine ko_callI mi_k21.1 (pc := 145) (ls := [(2, .int (l2_2 + 1)), (5, .int ((a2 61).getD l2_2.toNatClampNeg 0)), (4, .int ((a2 60).getD l2_2.toNatClampNeg 0)), (3, .int l3_2), (0, .ref 59), (1, .ref 73)]) (st := [.ref 59]) (h := ks i2 a2 q2 r2) (i := (.invokevirtual 36, 3, 20, 0, 9, 0, 226)) (mi_k21.2 _ _ (by rfl)) (ft_invS mi_pq20 (by rfl)) (cy := mi_c20) mi_pq20 rfl (kc20_59 hG28.I hG28.R ) (by decide) ?_
              intro vg29 ig29 ag29 qg29 rg29 kg29 hg29
              have hGg29 := kG_call hG28 kg29 (by decide +kernel)
              exact ft_ret mi_k21 (by rfl) (hP vg29 _ _ _ _ hGg29 trivial)
            by_cases w30 : ((a2 60).getD l2_2.toNatClampNeg 0).toInt = 3
            ·
              refine ft_swx mi_k21 (pc := 48) (v := 3) (t := 149) (kj_eq w30 (by decide) : ((a2 60).getD l2_2.toNatClampNeg 0) = 3) (by decide +kernel) ?_
              first | refine ft_go mi_k21 1 150 [(2, .int (l2_2 + 1)), (5, .int ((a2 61).getD l2_2.toNatClampNeg 0)), (4, .int ((a2 60).getD l2_2.toNatClampNeg 0)), (3, .int l3_2), (0, .ref 59), (1, .ref 73)] [.ref 59] i2 a2 q2 r2 (by rfl) ?_ | refine ko_steps mi_in21 1 _ (150, [(2, .int (l2_2 + 1)), (5, .int ((a2 61).getD l2_2.toNatClampNeg 0)), (4, .int ((a2 60).getD l2_2.toNatClampNeg 0)), (3, .int l3_2), (0, .ref 59), (1, .ref 73)], [.ref 59], (0, 0), ks i2 a2 q2 r2) (by rfl) ?_
              refine ko_callI mi_k21.1 (pc := 150) (ls := [(2, .int (l2_2 + 1)), (5, .int ((a2 61).getD l2_2.toNatClampNeg 0)), (4, .int ((a2 60).getD l2_2.toNatClampNeg 0)), (3, .int l3_2), (0, .ref 59), (1, .ref 73)]) (st := [.ref 59]) (h := ks i2 a2 q2 r2) (i := (.invokevirtual 36, 3, 20, 0, 9, 0, 226)) (mi_k21.2 _ _ (by rfl)) (ft_invS mi_pq20 (by rfl)) (cy := mi_c20) mi_pq20 rfl (kc20_59 hL2.I hL2.R ) (by decide) ?_
              intro vg31 ig31 ag31 qg31 rg31 kg31 hg31
              have hGg31 := kG_call hL2 kg31 (by decide +kernel)
              refine ft_if mi_k21 (vg31 != 0) 214 156 [(2, .int (l2_2 + 1)), (5, .int ((a2 61).getD l2_2.toNatClampNeg 0)), (4, .int ((a2 60).getD l2_2.toNatClampNeg 0)), (3, .int l3_2), (0, .ref 59), (1, .ref 73)] [] (by rfl) (fun c => ?_) (fun c => ?_)
              ·
                have c32 : vg31.toInt ≠ (0 : Int32).toInt := kd_ne c; clear c
                have s33 : (l3_2 + 1).toInt = l3_2.toInt + (1 : Int32).toInt := kd_add (oz12 p2_0 kn1) (oz1036 c5 kn121 kn1)
                first | refine ft_go mi_k21 2 9 [(3, .int (l3_2 + 1)), (2, .int (l2_2 + 1)), (5, .int ((a2 61).getD l2_2.toNatClampNeg 0)), (4, .int ((a2 60).getD l2_2.toNatClampNeg 0)), (0, .ref 59), (1, .ref 73)] [] ig31 ag31 qg31 rg31 (by rfl) ?_ | refine ko_steps mi_in21 2 _ (9, [(3, .int (l3_2 + 1)), (2, .int (l2_2 + 1)), (5, .int ((a2 61).getD l2_2.toNatClampNeg 0)), (4, .int ((a2 60).getD l2_2.toNatClampNeg 0)), (0, .ref 59), (1, .ref 73)], [], (0, 0), ks ig31 ag31 qg31 rg31) (by rfl) ?_
                refine ko_perm [(3, .int (l3_2 + 1)), (2, .int (l2_2 + 1)), (0, .ref 59), (1, .ref 73)] (List.forall_mem_cons.mpr ⟨(List.Mem.head _), (List.forall_mem_cons.mpr ⟨(List.Mem.tail _ (List.Mem.head _)), (List.forall_mem_cons.mpr ⟨(List.Mem.tail _ (List.Mem.tail _ (List.Mem.tail _ (List.Mem.tail _ (List.Mem.head _))))), (List.forall_mem_cons.mpr ⟨(List.Mem.tail _ (List.Mem.tail _ (List.Mem.tail _ (List.Mem.tail _ (List.Mem.tail _ (List.Mem.head _)))))), (fun _ h => absurd h List.not_mem_nil)⟩)⟩)⟩)⟩) ?_
                exact ih2 _ _ _ _ _ _ hGg31 (oz14 p2_0 s33 kn1) (kj_meas (oz1037 s33 kn1) (oz1038 c5 kn121) hm2)
              ·
                have c34 : vg31.toInt = (0 : Int32).toInt := kd_neF c; clear c
                have s35 : (l3_2 + 1).toInt = l3_2.toInt + (1 : Int32).toInt := kd_add (oz12 p2_0 kn1) (oz1036 c5 kn121 kn1)
                first | refine ft_go mi_k21 5 9 [(3, .int (l3_2 + 1)), (2, .int ((a2 61).getD l2_2.toNatClampNeg 0)), (5, .int ((a2 61).getD l2_2.toNatClampNeg 0)), (4, .int ((a2 60).getD l2_2.toNatClampNeg 0)), (0, .ref 59), (1, .ref 73)] [] ig31 ag31 qg31 rg31 (by rfl) ?_ | refine ko_steps mi_in21 5 _ (9, [(3, .int (l3_2 + 1)), (2, .int ((a2 61).getD l2_2.toNatClampNeg 0)), (5, .int ((a2 61).getD l2_2.toNatClampNeg 0)), (4, .int ((a2 60).getD l2_2.toNatClampNeg 0)), (0, .ref 59), (1, .ref 73)], [], (0, 0), ks ig31 ag31 qg31 rg31) (by rfl) ?_
                refine ko_perm [(3, .int (l3_2 + 1)), (2, .int ((a2 61).getD l2_2.toNatClampNeg 0)), (0, .ref 59), (1, .ref 73)] (List.forall_mem_cons.mpr ⟨(List.Mem.head _), (List.forall_mem_cons.mpr ⟨(List.Mem.tail _ (List.Mem.head _)), (List.forall_mem_cons.mpr ⟨(List.Mem.tail _ (List.Mem.tail _ (List.Mem.tail _ (List.Mem.tail _ (List.Mem.head _))))), (List.forall_mem_cons.mpr ⟨(List.Mem.tail _ (List.Mem.tail _ (List.Mem.tail _ (List.Mem.tail _ (List.Mem.tail _ (List.Mem.head _)))))), (fun _ h => absurd h List.not_mem_nil)⟩)⟩)⟩)⟩) ?_
                exact ih2 _ _ _ _ _ _ hGg31 (oz14 p2_0 s35 kn1) (kj_meas (oz1037 s35 kn1) (oz1038 c5 kn121) hm2)
            by_cases w36 : ((a2 60).getD l2_2.toNatClampNeg 0).toInt = 33
            ·
              refine ft_swx mi_k21 (pc := 48) (v := 33) (t := 162) (kj_eq w36 (by decide) : ((a2 60).getD l2_2.toNatClampNeg 0) = 33) (by decide +kernel) ?_
              first | refine ft_go mi_k21 2 164 [(2, .int (l2_2 + 1)), (5, .int ((a2 61).getD l2_2.toNatClampNeg 0)), (4, .int ((a2 60).getD l2_2.toNatClampNeg 0)), (3, .int l3_2), (0, .ref 59), (1, .ref 73)] [.ref 59, .ref 59] i2 a2 q2 r2 (by rfl) ?_ | refine ko_steps mi_in21 2 _ (164, [(2, .int (l2_2 + 1)), (5, .int ((a2 61).getD l2_2.toNatClampNeg 0)), (4, .int ((a2 60).getD l2_2.toNatClampNeg 0)), (3, .int l3_2), (0, .ref 59), (1, .ref 73)], [.ref 59, .ref 59], (0, 0), ks i2 a2 q2 r2) (by rfl) ?_
              refine ko_callI mi_k21.1 (pc := 164) (ls := [(2, .int (l2_2 + 1)), (5, .int ((a2 61).getD l2_2.toNatClampNeg 0)), (4, .int ((a2 60).getD l2_2.toNatClampNeg 0)), (3, .int l3_2), (0, .ref 59), (1, .ref 73)]) (st := [.ref 59, .ref 59]) (h := ks i2 a2 q2 r2) (i := (.invokevirtual 36, 3, 20, 0, 9, 0, 226)) (mi_k21.2 _ _ (by rfl)) (ft_invS mi_pq20 (by rfl)) (cy := mi_c20) mi_pq20 rfl (kc20_59 hL2.I hL2.R ) (by decide) ?_
              intro vg37 ig37 ag37 qg37 rg37 kg37 hg37
              have hGg37 := kG_call hL2 kg37 (by decide +kernel)
              refine ft_if mi_k21 (vg37 != 0) 174 170 [(2, .int (l2_2 + 1)), (5, .int ((a2 61).getD l2_2.toNatClampNeg 0)), (4, .int ((a2 60).getD l2_2.toNatClampNeg 0)), (3, .int l3_2), (0, .ref 59), (1, .ref 73)] [.ref 59] (by rfl) (fun c => ?_) (fun c => ?_)
              ·
                have c38 : vg37.toInt ≠ (0 : Int32).toInt := kd_ne c; clear c
                first | refine ft_go mi_k21 1 175 [(2, .int (l2_2 + 1)), (5, .int ((a2 61).getD l2_2.toNatClampNeg 0)), (4, .int ((a2 60).getD l2_2.toNatClampNeg 0)), (3, .int l3_2), (0, .ref 59), (1, .ref 73)] [.int 0, .ref 59] ig37 ag37 qg37 rg37 (by rfl) ?_ | refine ko_steps mi_in21 1 _ (175, [(2, .int (l2_2 + 1)), (5, .int ((a2 61).getD l2_2.toNatClampNeg 0)), (4, .int ((a2 60).getD l2_2.toNatClampNeg 0)), (3, .int l3_2), (0, .ref 59), (1, .ref 73)], [.int 0, .ref 59], (0, 0), ks ig37 ag37 qg37 rg37) (by rfl) ?_
                refine ko_callN mi_k21.1 (pc := 175) (ls := [(2, .int (l2_2 + 1)), (5, .int ((a2 61).getD l2_2.toNatClampNeg 0)), (4, .int ((a2 60).getD l2_2.toNatClampNeg 0)), (3, .int l3_2), (0, .ref 59), (1, .ref 73)]) (st := [.int 0, .ref 59]) (h := ks ig37 ag37 qg37 rg37) (i := (.invokevirtual 32, 3, 19, 0, 9, 0, 225)) (mi_k21.2 _ _ (by rfl)) (ft_invS mi_pq19 (by rfl)) (cy := mi_c19) mi_pq19 rfl (kc19_59 hGg37.I hGg37.R 0) (by decide) ?_
                intro ig39 ag39 qg39 rg39 kg39 hg39
                have hGg39 := kG_call hGg37 kg39 (by decide +kernel)
                have s40 : (l3_2 + 1).toInt = l3_2.toInt + (1 : Int32).toInt := kd_add (oz12 p2_0 kn1) (oz1036 c5 kn121 kn1)
                first | refine ft_go mi_k21 3 9 [(3, .int (l3_2 + 1)), (2, .int (l2_2 + 1)), (5, .int ((a2 61).getD l2_2.toNatClampNeg 0)), (4, .int ((a2 60).getD l2_2.toNatClampNeg 0)), (0, .ref 59), (1, .ref 73)] [] ig39 ag39 qg39 rg39 (by rfl) ?_ | refine ko_steps mi_in21 3 _ (9, [(3, .int (l3_2 + 1)), (2, .int (l2_2 + 1)), (5, .int ((a2 61).getD l2_2.toNatClampNeg 0)), (4, .int ((a2 60).getD l2_2.toNatClampNeg 0)), (0, .ref 59), (1, .ref 73)], [], (0, 0), ks ig39 ag39 qg39 rg39) (by rfl) ?_
                refine ko_perm [(3, .int (l3_2 + 1)), (2, .int (l2_2 + 1)), (0, .ref 59), (1, .ref 73)] (List.forall_mem_cons.mpr ⟨(List.Mem.head _), (List.forall_mem_cons.mpr ⟨(List.Mem.tail _ (List.Mem.head _)), (List.forall_mem_cons.mpr ⟨(List.Mem.tail _ (List.Mem.tail _ (List.Mem.tail _ (List.Mem.tail _ (List.Mem.head _))))), (List.forall_mem_cons.mpr ⟨(List.Mem.tail _ (List.Mem.tail _ (List.Mem.tail _ (List.Mem.tail _ (List.Mem.tail _ (List.Mem.head _)))))), (fun _ h => absurd h List.not_mem_nil)⟩)⟩)⟩)⟩) ?_
                exact ih2 _ _ _ _ _ _ hGg39 (oz14 p2_0 s40 kn1) (kj_meas (oz1037 s40 kn1) (oz1038 c5 kn121) hm2)
              ·
                have c41 : vg37.toInt = (0 : Int32).toInt := kd_neF c; clear c
                first | refine ft_go mi_k21 2 175 [(2, .int (l2_2 + 1)), (5, .int ((a2 61).getD l2_2.toNatClampNeg 0)), (4, .int ((a2 60).getD l2_2.toNatClampNeg 0)), (3, .int l3_2), (0, .ref 59), (1, .ref 73)] [.int 1, .ref 59] ig37 ag37 qg37 rg37 (by rfl) ?_ | refine ko_steps mi_in21 2 _ (175, [(2, .int (l2_2 + 1)), (5, .int ((a2 61).getD l2_2.toNatClampNeg 0)), (4, .int ((a2 60).getD l2_2.toNatClampNeg 0)), (3, .int l3_2), (0, .ref 59), (1, .ref 73)], [.int 1, .ref 59], (0, 0), ks ig37 ag37 qg37 rg37) (by rfl) ?_
                refine ko_callN mi_k21.1 (pc := 175) (ls := [(2, .int (l2_2 + 1)), (5, .int ((a2 61).getD l2_2.toNatClampNeg 0)), (4, .int ((a2 60).getD l2_2.toNatClampNeg 0)), (3, .int l3_2), (0, .ref 59), (1, .ref 73)]) (st := [.int 1, .ref 59]) (h := ks ig37 ag37 qg37 rg37) (i := (.invokevirtual 32, 3, 19, 0, 9, 0, 225)) (mi_k21.2 _ _ (by rfl)) (ft_invS mi_pq19 (by rfl)) (cy := mi_c19) mi_pq19 rfl (kc19_59 hGg37.I hGg37.R 1) (by decide) ?_
                intro ig42 ag42 qg42 rg42 kg42 hg42
                have hGg42 := kG_call hGg37 kg42 (by decide +kernel)
                have s43 : (l3_2 + 1).toInt = l3_2.toInt + (1 : Int32).toInt := kd_add (oz12 p2_0 kn1) (oz1036 c5 kn121 kn1)
                first | refine ft_go mi_k21 3 9 [(3, .int (l3_2 + 1)), (2, .int (l2_2 + 1)), (5, .int ((a2 61).getD l2_2.toNatClampNeg 0)), (4, .int ((a2 60).getD l2_2.toNatClampNeg 0)), (0, .ref 59), (1, .ref 73)] [] ig42 ag42 qg42 rg42 (by rfl) ?_ | refine ko_steps mi_in21 3 _ (9, [(3, .int (l3_2 + 1)), (2, .int (l2_2 + 1)), (5, .int ((a2 61).getD l2_2.toNatClampNeg 0)), (4, .int ((a2 60).getD l2_2.toNatClampNeg 0)), (0, .ref 59), (1, .ref 73)], [], (0, 0), ks ig42 ag42 qg42 rg42) (by rfl) ?_
                refine ko_perm [(3, .int (l3_2 + 1)), (2, .int (l2_2 + 1)), (0, .ref 59), (1, .ref 73)] (List.forall_mem_cons.mpr ⟨(List.Mem.head _), (List.forall_mem_cons.mpr ⟨(List.Mem.tail _ (List.Mem.head _)), (List.forall_mem_cons.mpr ⟨(List.Mem.tail _ (List.Mem.tail _ (List.Mem.tail _ (List.Mem.tail _ (List.Mem.head _))))), (List.forall_mem_cons.mpr ⟨(List.Mem.tail _ (List.Mem.tail _ (List.Mem.tail _ (List.Mem.tail _ (List.Mem.tail _ (List.Mem.head _)))))), (fun _ h => absurd h List.not_mem_nil)⟩)⟩)⟩)⟩) ?_
                exact ih2 _ _ _ _ _ _ hGg42 (oz14 p2_0 s43 kn1) (kj_meas (oz1037 s43 kn1) (oz1038 c5 kn121) hm2)
            by_cases w44 : ((a2 60).getD l2_2.toNatClampNeg 0).toInt = 126
            ·
              refine ft_swx mi_k21 (pc := 48) (v := 126) (t := 181) (kj_eq w44 (by decide) : ((a2 60).getD l2_2.toNatClampNeg 0) = 126) (by decide +kernel) ?_
              first | refine ft_go mi_k21 2 183 [(2, .int (l2_2 + 1)), (5, .int ((a2 61).getD l2_2.toNatClampNeg 0)), (4, .int ((a2 60).getD l2_2.toNatClampNeg 0)), (3, .int l3_2), (0, .ref 59), (1, .ref 73)] [.ref 59, .ref 59] i2 a2 q2 r2 (by rfl) ?_ | refine ko_steps mi_in21 2 _ (183, [(2, .int (l2_2 + 1)), (5, .int ((a2 61).getD l2_2.toNatClampNeg 0)), (4, .int ((a2 60).getD l2_2.toNatClampNeg 0)), (3, .int l3_2), (0, .ref 59), (1, .ref 73)], [.ref 59, .ref 59], (0, 0), ks i2 a2 q2 r2) (by rfl) ?_
              refine ko_callI mi_k21.1 (pc := 183) (ls := [(2, .int (l2_2 + 1)), (5, .int ((a2 61).getD l2_2.toNatClampNeg 0)), (4, .int ((a2 60).getD l2_2.toNatClampNeg 0)), (3, .int l3_2), (0, .ref 59), (1, .ref 73)]) (st := [.ref 59, .ref 59]) (h := ks i2 a2 q2 r2) (i := (.invokevirtual 36, 3, 20, 0, 9, 0, 226)) (mi_k21.2 _ _ (by rfl)) (ft_invS mi_pq20 (by rfl)) (cy := mi_c20) mi_pq20 rfl (kc20_59 hL2.I hL2.R ) (by decide) ?_
              intro vg45 ig45 ag45 qg45 rg45 kg45 hg45
              have hGg45 := kG_call hL2 kg45 (by decide +kernel)
              first | refine ft_go mi_k21 1 187 [(2, .int (l2_2 + 1)), (5, .int ((a2 61).getD l2_2.toNatClampNeg 0)), (4, .int ((a2 60).getD l2_2.toNatClampNeg 0)), (3, .int l3_2), (0, .ref 59), (1, .ref 73)] [.int (-vg45), .ref 59] ig45 ag45 qg45 rg45 (by rfl) ?_ | refine ko_steps mi_in21 1 _ (187, [(2, .int (l2_2 + 1)), (5, .int ((a2 61).getD l2_2.toNatClampNeg 0)), (4, .int ((a2 60).getD l2_2.toNatClampNeg 0)), (3, .int l3_2), (0, .ref 59), (1, .ref 73)], [.int (-vg45), .ref 59], (0, 0), ks ig45 ag45 qg45 rg45) (by rfl) ?_
              refine ko_callN mi_k21.1 (pc := 187) (ls := [(2, .int (l2_2 + 1)), (5, .int ((a2 61).getD l2_2.toNatClampNeg 0)), (4, .int ((a2 60).getD l2_2.toNatClampNeg 0)), (3, .int l3_2), (0, .ref 59), (1, .ref 73)]) (st := [.int (-vg45), .ref 59]) (h := ks ig45 ag45 qg45 rg45) (i := (.invokevirtual 32, 3, 19, 0, 9, 0, 225)) (mi_k21.2 _ _ (by rfl)) (ft_invS mi_pq19 (by rfl)) (cy := mi_c19) mi_pq19 rfl (kc19_59 hGg45.I hGg45.R (-vg45)) (by decide) ?_
              intro ig46 ag46 qg46 rg46 kg46 hg46
              have hGg46 := kG_call hGg45 kg46 (by decide +kernel)
              have s47 : (l3_2 + 1).toInt = l3_2.toInt + (1 : Int32).toInt := kd_add (oz12 p2_0 kn1) (oz1036 c5 kn121 kn1)
              first | refine ft_go mi_k21 3 9 [(3, .int (l3_2 + 1)), (2, .int (l2_2 + 1)), (5, .int ((a2 61).getD l2_2.toNatClampNeg 0)), (4, .int ((a2 60).getD l2_2.toNatClampNeg 0)), (0, .ref 59), (1, .ref 73)] [] ig46 ag46 qg46 rg46 (by rfl) ?_ | refine ko_steps mi_in21 3 _ (9, [(3, .int (l3_2 + 1)), (2, .int (l2_2 + 1)), (5, .int ((a2 61).getD l2_2.toNatClampNeg 0)), (4, .int ((a2 60).getD l2_2.toNatClampNeg 0)), (0, .ref 59), (1, .ref 73)], [], (0, 0), ks ig46 ag46 qg46 rg46) (by rfl) ?_
              refine ko_perm [(3, .int (l3_2 + 1)), (2, .int (l2_2 + 1)), (0, .ref 59), (1, .ref 73)] (List.forall_mem_cons.mpr ⟨(List.Mem.head _), (List.forall_mem_cons.mpr ⟨(List.Mem.tail _ (List.Mem.head _)), (List.forall_mem_cons.mpr ⟨(List.Mem.tail _ (List.Mem.tail _ (List.Mem.tail _ (List.Mem.tail _ (List.Mem.head _))))), (List.forall_mem_cons.mpr ⟨(List.Mem.tail _ (List.Mem.tail _ (List.Mem.tail _ (List.Mem.tail _ (List.Mem.tail _ (List.Mem.head _)))))), (fun _ h => absurd h List.not_mem_nil)⟩)⟩)⟩)⟩) ?_
              exact ih2 _ _ _ _ _ _ hGg46 (oz14 p2_0 s47 kn1) (kj_meas (oz1037 s47 kn1) (oz1038 c5 kn121) hm2)
            refine ko_lsw (ls := [(2, .int (l2_2 + 1)), (5, .int ((a2 61).getD l2_2.toNatClampNeg 0)), (4, .int ((a2 60).getD l2_2.toNatClampNeg 0)), (3, .int l3_2), (0, .ref 59), (1, .ref 73)]) (r := []) (h := ks i2 a2 q2 r2) mi_in21 (v := ((a2 60).getD l2_2.toNatClampNeg 0)) (i := (.lookupswitch 145 #[(0, 60), (1, 69), (2, 96), (3, 101), (33, 114), (126, 133)], 60, 0, 0, 0, 0, 0)) (by rfl) rfl (by simp only [Op.lookupswitch.offset, if_neg (Ne.symm w13), if_neg (Ne.symm w16), if_neg (Ne.symm w27), if_neg (Ne.symm w30), if_neg (Ne.symm w36), if_neg (Ne.symm w44)] <;> rfl) 193 (by rfl) ?_
            first | refine ft_go mi_k21 1 194 [(2, .int (l2_2 + 1)), (5, .int ((a2 61).getD l2_2.toNatClampNeg 0)), (4, .int ((a2 60).getD l2_2.toNatClampNeg 0)), (3, .int l3_2), (0, .ref 59), (1, .ref 73)] [.ref 59] i2 a2 q2 r2 (by rfl) ?_ | refine ko_steps mi_in21 1 _ (194, [(2, .int (l2_2 + 1)), (5, .int ((a2 61).getD l2_2.toNatClampNeg 0)), (4, .int ((a2 60).getD l2_2.toNatClampNeg 0)), (3, .int l3_2), (0, .ref 59), (1, .ref 73)], [.ref 59], (0, 0), ks i2 a2 q2 r2) (by rfl) ?_
            refine ko_callI mi_k21.1 (pc := 194) (ls := [(2, .int (l2_2 + 1)), (5, .int ((a2 61).getD l2_2.toNatClampNeg 0)), (4, .int ((a2 60).getD l2_2.toNatClampNeg 0)), (3, .int l3_2), (0, .ref 59), (1, .ref 73)]) (st := [.ref 59]) (h := ks i2 a2 q2 r2) (i := (.invokevirtual 36, 3, 20, 0, 9, 0, 226)) (mi_k21.2 _ _ (by rfl)) (ft_invS mi_pq20 (by rfl)) (cy := mi_c20) mi_pq20 rfl (kc20_59 hL2.I hL2.R ) (by decide) ?_
            intro vg48 ig48 ag48 qg48 rg48 kg48 hg48
            have hGg48 := kG_call hL2 kg48 (by decide +kernel)
            first | refine ft_go mi_k21 4 203 [(6, .int vg48), (2, .int (l2_2 + 1)), (5, .int ((a2 61).getD l2_2.toNatClampNeg 0)), (4, .int ((a2 60).getD l2_2.toNatClampNeg 0)), (3, .int l3_2), (0, .ref 59), (1, .ref 73)] [.ref 59, .int ((a2 60).getD l2_2.toNatClampNeg 0), .ref 59] ig48 ag48 qg48 rg48 (by rfl) ?_ | refine ko_steps mi_in21 4 _ (203, [(6, .int vg48), (2, .int (l2_2 + 1)), (5, .int ((a2 61).getD l2_2.toNatClampNeg 0)), (4, .int ((a2 60).getD l2_2.toNatClampNeg 0)), (3, .int l3_2), (0, .ref 59), (1, .ref 73)], [.ref 59, .int ((a2 60).getD l2_2.toNatClampNeg 0), .ref 59], (0, 0), ks ig48 ag48 qg48 rg48) (by rfl) ?_
            refine ko_callI mi_k21.1 (pc := 203) (ls := [(6, .int vg48), (2, .int (l2_2 + 1)), (5, .int ((a2 61).getD l2_2.toNatClampNeg 0)), (4, .int ((a2 60).getD l2_2.toNatClampNeg 0)), (3, .int l3_2), (0, .ref 59), (1, .ref 73)]) (st := [.ref 59, .int ((a2 60).getD l2_2.toNatClampNeg 0), .ref 59]) (h := ks ig48 ag48 qg48 rg48) (i := (.invokevirtual 36, 3, 20, 0, 9, 0, 226)) (mi_k21.2 _ _ (by rfl)) (ft_invS mi_pq20 (by rfl)) (cy := mi_c20) mi_pq20 rfl (kc20_59 hGg48.I hGg48.R ) (by decide) ?_
            intro vg49 ig49 ag49 qg49 rg49 kg49 hg49
            have hGg49 := kG_call hGg48 kg49 (by decide +kernel)
            first | refine ft_go mi_k21 1 208 [(6, .int vg48), (2, .int (l2_2 + 1)), (5, .int ((a2 61).getD l2_2.toNatClampNeg 0)), (4, .int ((a2 60).getD l2_2.toNatClampNeg 0)), (3, .int l3_2), (0, .ref 59), (1, .ref 73)] [.int vg48, .int vg49, .int ((a2 60).getD l2_2.toNatClampNeg 0), .ref 59] ig49 ag49 qg49 rg49 (by rfl) ?_ | refine ko_steps mi_in21 1 _ (208, [(6, .int vg48), (2, .int (l2_2 + 1)), (5, .int ((a2 61).getD l2_2.toNatClampNeg 0)), (4, .int ((a2 60).getD l2_2.toNatClampNeg 0)), (3, .int l3_2), (0, .ref 59), (1, .ref 73)], [.int vg48, .int vg49, .int ((a2 60).getD l2_2.toNatClampNeg 0), .ref 59], (0, 0), ks ig49 ag49 qg49 rg49) (by rfl) ?_
            refine ko_callPI mi_k21.1 (pc := 208) (ls := [(6, .int vg48), (2, .int (l2_2 + 1)), (5, .int ((a2 61).getD l2_2.toNatClampNeg 0)), (4, .int ((a2 60).getD l2_2.toNatClampNeg 0)), (3, .int l3_2), (0, .ref 59), (1, .ref 73)]) (st := [.int vg48, .int vg49, .int ((a2 60).getD l2_2.toNatClampNeg 0), .ref 59]) (h := ks ig49 ag49 qg49 rg49) (i := (.invokestatic 40, 3, 22, 0, 9, 0, 227)) (mi_k21.2 _ _ (by rfl)) (ft_invS mi_pq22 (by rfl)) (cy := mi_c22) mi_pq22 rfl (kc22 hGg49.I hGg49.R ((a2 60).getD l2_2.toNatClampNeg 0) vg49 vg48) (by decide) ?_
            intro vg50 hg50
            refine ko_callN mi_k21.1 (pc := 211) (ls := [(6, .int vg48), (2, .int (l2_2 + 1)), (5, .int ((a2 61).getD l2_2.toNatClampNeg 0)), (4, .int ((a2 60).getD l2_2.toNatClampNeg 0)), (3, .int l3_2), (0, .ref 59), (1, .ref 73)]) (st := [.int vg50, .ref 59]) (h := ks ig49 ag49 qg49 rg49) (i := (.invokevirtual 32, 3, 19, 0, 9, 0, 225)) (mi_k21.2 _ _ (by rfl)) (ft_invS mi_pq19 (by rfl)) (cy := mi_c19) mi_pq19 rfl (kc19_59 hGg49.I hGg49.R vg50) (by decide) ?_
            intro ig51 ag51 qg51 rg51 kg51 hg51
            have hGg51 := kG_call hGg49 kg51 (by decide +kernel)
            have s52 : (l3_2 + 1).toInt = l3_2.toInt + (1 : Int32).toInt := kd_add (oz12 p2_0 kn1) (oz1036 c5 kn121 kn1)
            first | refine ft_go mi_k21 2 9 [(3, .int (l3_2 + 1)), (6, .int vg48), (2, .int (l2_2 + 1)), (5, .int ((a2 61).getD l2_2.toNatClampNeg 0)), (4, .int ((a2 60).getD l2_2.toNatClampNeg 0)), (0, .ref 59), (1, .ref 73)] [] ig51 ag51 qg51 rg51 (by rfl) ?_ | refine ko_steps mi_in21 2 _ (9, [(3, .int (l3_2 + 1)), (6, .int vg48), (2, .int (l2_2 + 1)), (5, .int ((a2 61).getD l2_2.toNatClampNeg 0)), (4, .int ((a2 60).getD l2_2.toNatClampNeg 0)), (0, .ref 59), (1, .ref 73)], [], (0, 0), ks ig51 ag51 qg51 rg51) (by rfl) ?_
            refine ko_perm [(3, .int (l3_2 + 1)), (2, .int (l2_2 + 1)), (0, .ref 59), (1, .ref 73)] (List.forall_mem_cons.mpr ⟨(List.Mem.head _), (List.forall_mem_cons.mpr ⟨(List.Mem.tail _ (List.Mem.tail _ (List.Mem.head _))), (List.forall_mem_cons.mpr ⟨(List.Mem.tail _ (List.Mem.tail _ (List.Mem.tail _ (List.Mem.tail _ (List.Mem.tail _ (List.Mem.head _)))))), (List.forall_mem_cons.mpr ⟨(List.Mem.tail _ (List.Mem.tail _ (List.Mem.tail _ (List.Mem.tail _ (List.Mem.tail _ (List.Mem.tail _ (List.Mem.head _))))))), (fun _ h => absurd h List.not_mem_nil)⟩)⟩)⟩)⟩) ?_
            exact ih2 _ _ _ _ _ _ hGg51 (oz14 p2_0 s52 kn1) (kj_meas (oz1037 s52 kn1) (oz1038 c5 kn121) hm2)
  exact lp2 _ _ _ _ _ _ _ (kG_self _ hJ1.I hJ1.R) (oz46 kn0) (Nat.lt_succ_self _)
def w19_10 : kW := ([645], [13], [], [])
set_option maxRecDepth 100000 in
theorem kc19_10 {i : Nat → Int32} {a : Nat → List Int32} {q : Nat → List Int64} {r : Nat → Nat} (hI : kI i a q) (hr : kr r) (x1 : Int32) : km 1 19 [.ref 10, .int x1] (ks i a q r) (kVN w19_10 i a q r (fun i1 a1 q1 r1 => True)) := by
  have hG := kG_self w19_10 hI hr
  refine km_ofN (q := (mi_h19, mi_c19)) rfl (by decide) (Nat.le_of_ble_eq_true rfl) ?_
  intro P hP
  have fi_645 : ((0 : Int) ≤ (i 645).toInt) ∧ ((i 645).toInt ≤ 121) := hG.I.1 645
  refine ft_go mi_k19 3 6 [(0, .ref 10), (1, .int x1)] [.int 121, .int (i 645)] i a q r (by rfl) ?_
  refine ft_if mi_k19 (decide (121 ≤ (i 645))) 29 9 [(0, .ref 10), (1, .int x1)] [] (by rfl) (fun c => ?_) (fun c => ?_)
  ·
    have c1 : (121 : Int32).toInt ≤ (i 645).toInt := kd_le c; clear c
    exact ft_ret mi_k19 (by rfl) (hP  _ _ _ _ hG trivial)
  ·
    have c2 : (i 645).toInt < (121 : Int32).toInt := kd_leF c; clear c
    refine ft_go mi_k19 5 18 [(0, .ref 10), (1, .int x1)] [.int x1, .int (i 645), .ref 13] i a q r (by rfl) ?_
    refine ko_iast3 mi_k19.1 (n := 121) (c := 121) (ax := (0, 0, 0, 0, 0)) (mi_k19.2 _ _ (by rfl)) (by rfl) (ksG13 _ _ _ _) (ksA13 _ _ _ _) (hG.I.2.1 13) rfl (oz3 fi_645.1) (oz912 c2 kn121) ?_
    intro a3 ea3 fa3
    have hJ3 := kG_a3 hG 13 rfl ea3 fa3 (kd_bd _)
    have s4 : ((i 645) + 1).toInt = (i 645).toInt + (1 : Int32).toInt := kd_add (oz12 fi_645.1 kn1) (oz913 fi_645.2 kn1)
    have hJ5 := kG_i hJ3 645 rfl (v := ((i 645) + 1)) ⟨(oz14 fi_645.1 s4 kn1), (oz914 c2 s4 kn121 kn1)⟩
    refine ft_go mi_k19 6 29 [(0, .ref 10), (1, .int x1)] [] (ku i 645 ((i 645) + 1)) a3 q r (by rfl) ?_
    exact ft_ret mi_k19 (by rfl) (hP  _ _ _ _ hJ5 trivial)
def w20_10 : kW := ([645], [], [], [])
set_option maxRecDepth 100000 in
theorem kc20_10 {i : Nat → Int32} {a : Nat → List Int32} {q : Nat → List Int64} {r : Nat → Nat} (hI : kI i a q) (hr : kr r)  : km 1 20 [.ref 10] (ks i a q r) (kVI w20_10 i a q r (fun v i1 a1 q1 r1 => True)) := by
  have hG := kG_self w20_10 hI hr
  refine km_ofI (q := (mi_h20, mi_c20)) rfl (by decide) (Nat.le_of_ble_eq_true rfl) ?_
  intro P hP
  have fi_645 : ((0 : Int) ≤ (i 645).toInt) ∧ ((i 645).toInt ≤ 121) := hG.I.1 645
  refine ft_go mi_k20 2 4 [(0, .ref 10)] [.int (i 645)] i a q r (by rfl) ?_
  refine ft_if mi_k20 (decide (0 < (i 645))) 9 7 [(0, .ref 10)] [] (by rfl) (fun c => ?_) (fun c => ?_)
  ·
    have c1 : (0 : Int32).toInt < (i 645).toInt := kd_lt c; clear c
    have s2 : ((i 645) - 1).toInt = (i 645).toInt - (1 : Int32).toInt := kd_sub (oz1040 c1 kn0 kn1) (oz911 fi_645.2 kn1)
    have hJ3 := kG_i hG 645 rfl (v := ((i 645) - 1)) ⟨(oz1041 c1 s2 kn0 kn1), (oz1042 fi_645.2 s2 kn1)⟩
    refine ft_go mi_k20 10 27 [(0, .ref 10)] [.int ((i 645) - 1), .ref 13] (ku i 645 ((i 645) - 1)) a q r (by rfl) ?_
    refine ko_iald3 mi_k20.1 (n := 121) (c := 121) (ax := (0, 0, 0, 0, 0)) (mi_k20.2 _ _ (by rfl)) (by rfl) (ksG13 _ _ _ _) (hJ3.I.2.1 13) rfl (oz1041 c1 s2 kn0 kn1) (oz1043 fi_645.2 s2 kn1) ?_
    exact ft_ret mi_k20 (by rfl) (hP ((a 13).getD ((i 645) - 1).toNatClampNeg 0) _ _ _ _ hJ3 trivial)
  ·
    have c4 : (i 645).toInt ≤ (0 : Int32).toInt := kd_ltF c; clear c
    refine ft_go mi_k20 1 8 [(0, .ref 10)] [.int 0] i a q r (by rfl) ?_
    exact ft_ret mi_k20 (by rfl) (hP 0 _ _ _ _ hG trivial)
def w21_10_73 : kW := ([645], [13], [], [])
def w21_10_73_L9 : kW := ([645], [13], [], [])
set_option maxRecDepth 100000 in
theorem kc21_10_73 {i : Nat → Int32} {a : Nat → List Int32} {q : Nat → List Int64} {r : Nat → Nat} (hI : kI i a q) (hr : kr r)  : km 3 21 [.ref 10, .ref 73] (ks i a q r) (kVI w21_10_73 i a q r (fun v i1 a1 q1 r1 => True)) := by
  have hG := kG_self w21_10_73 hI hr
  refine km_ofI (q := (mi_h21, mi_c21)) rfl (by decide) (Nat.le_of_ble_eq_true rfl) ?_
  intro P hP
  have hJ1 := kG_i hG 645 rfl (v := 0) ⟨(oz46 kn0), (oz1033 kn0)⟩
  first | refine ft_go mi_k21 7 9 [(3, .int 0), (2, .int 0), (0, .ref 10), (1, .ref 73)] [] (ku i 645 0) a q r (by rfl) ?_ | refine ko_steps mi_in21 7 _ (9, [(3, .int 0), (2, .int 0), (0, .ref 10), (1, .ref 73)], [], (0, 0), ks (ku i 645 0) a q r) (by rfl) ?_
  have lp2 : ∀ (nz : Nat) (i2 : Nat → Int32) (a2 : Nat → List Int32) (q2 : Nat → List Int64) (r2 : Nat → Nat) (l3_2 : Int32) (l2_2 : Int32), kG w21_10_73_L9 (ku i 645 0) a q r i2 a2 q2 r2 → (0 : Int) ≤ l3_2.toInt → ((121 - l3_2.toInt)).toNat < nz → ko 3 (mi_h21, mi_c21) P (9, [(3, .int l3_2), (2, .int l2_2), (0, .ref 10), (1, .ref 73)], [], (0, 0), ks i2 a2 q2 r2) := by
    intro nz
    induction nz with
    | zero =>
      intro _ _ _ _ _ _ _ _ hm
      exact absurd hm (Nat.not_lt_zero _)
    | succ nz ih2 =>
      intro i2 a2 q2 r2 l3_2 l2_2 hL2 p2_0 hm2
      first | refine ft_go mi_k21 2 12 [(3, .int l3_2), (2, .int l2_2), (0, .ref 10), (1, .ref 73)] [.int 121, .int l3_2] i2 a2 q2 r2 (by rfl) ?_ | refine ko_steps mi_in21 2 _ (12, [(3, .int l3_2), (2, .int l2_2), (0, .ref 10), (1, .ref 73)], [.int 121, .int l3_2], (0, 0), ks i2 a2 q2 r2) (by rfl) ?_
      refine ft_if mi_k21 (decide (121 ≤ l3_2)) 220 15 [(3, .int l3_2), (2, .int l2_2), (0, .ref 10), (1, .ref 73)] [] (by rfl) (fun c => ?_) (fun c => ?_)
      ·
        have c3 : (121 : Int32).toInt ≤ l3_2.toInt := kd_le c; clear c
        have hG4 := kG_call hJ1 hL2 (by decide +kernel)
        first | refine ft_go mi_k21 1 221 [(3, .int l3_2), (2, .int l2_2), (0, .ref 10), (1, .ref 73)] [.int 0] i2 a2 q2 r2 (by rfl) ?_ | refine ko_steps mi_in21 1 _ (221, [(3, .int l3_2), (2, .int l2_2), (0, .ref 10), (1, .ref 73)], [.int 0], (0, 0), ks i2 a2 q2 r2) (by rfl) ?_
        exact ft_ret mi_k21 (by rfl) (hP 0 _ _ _ _ hG4 trivial)
      ·
        have c5 : l3_2.toInt < (121 : Int32).toInt := kd_leF c; clear c
        first | refine ft_go mi_k21 1 16 [(3, .int l3_2), (2, .int l2_2), (0, .ref 10), (1, .ref 73)] [.int l2_2] i2 a2 q2 r2 (by rfl) ?_ | refine ko_steps mi_in21 1 _ (16, [(3, .int l3_2), (2, .int l2_2), (0, .ref 10), (1, .ref 73)], [.int l2_2], (0, 0), ks i2 a2 q2 r2) (by rfl) ?_
        refine ft_if mi_k21 (decide (l2_2 < 0)) 220 19 [(3, .int l3_2), (2, .int l2_2), (0, .ref 10), (1, .ref 73)] [] (by rfl) (fun c => ?_) (fun c => ?_)
        ·
          have c6 : l2_2.toInt < (0 : Int32).toInt := kd_lt c; clear c
          have hG7 := kG_call hJ1 hL2 (by decide +kernel)
          first | refine ft_go mi_k21 1 221 [(3, .int l3_2), (2, .int l2_2), (0, .ref 10), (1, .ref 73)] [.int 0] i2 a2 q2 r2 (by rfl) ?_ | refine ko_steps mi_in21 1 _ (221, [(3, .int l3_2), (2, .int l2_2), (0, .ref 10), (1, .ref 73)], [.int 0], (0, 0), ks i2 a2 q2 r2) (by rfl) ?_
          exact ft_ret mi_k21 (by rfl) (hP 0 _ _ _ _ hG7 trivial)
        ·
          have c8 : (0 : Int32).toInt ≤ l2_2.toInt := kd_ltF c; clear c
          have fi2_643 : ((0 : Int) ≤ (i2 643).toInt) ∧ ((i2 643).toInt ≤ 121) := hL2.I.1 643
          first | refine ft_go mi_k21 3 24 [(3, .int l3_2), (2, .int l2_2), (0, .ref 10), (1, .ref 73)] [.int (i2 643), .int l2_2] i2 a2 q2 r2 (by rfl) ?_ | refine ko_steps mi_in21 3 _ (24, [(3, .int l3_2), (2, .int l2_2), (0, .ref 10), (1, .ref 73)], [.int (i2 643), .int l2_2], (0, 0), ks i2 a2 q2 r2) (by rfl) ?_
          refine ft_if mi_k21 (decide ((i2 643) ≤ l2_2)) 220 27 [(3, .int l3_2), (2, .int l2_2), (0, .ref 10), (1, .ref 73)] [] (by rfl) (fun c => ?_) (fun c => ?_)
          ·
            have c9 : (i2 643).toInt ≤ l2_2.toInt := kd_le c; clear c
            have hG10 := kG_call hJ1 hL2 (by decide +kernel)
            first | refine ft_go mi_k21 1 221 [(3, .int l3_2), (2, .int l2_2), (0, .ref 10), (1, .ref 73)] [.int 0] i2 a2 q2 r2 (by rfl) ?_ | refine ko_steps mi_in21 1 _ (221, [(3, .int l3_2), (2, .int l2_2), (0, .ref 10), (1, .ref 73)], [.int 0], (0, 0), ks i2 a2 q2 r2) (by rfl) ?_
            exact ft_ret mi_k21 (by rfl) (hP 0 _ _ _ _ hG10 trivial)
          ·
            have c11 : l2_2.toInt < (i2 643).toInt := kd_leF c; clear c
            first | refine ft_go mi_k21 3 32 [(3, .int l3_2), (2, .int l2_2), (0, .ref 10), (1, .ref 73)] [.int l2_2, .ref 11] i2 a2 q2 r2 (by rfl) ?_ | refine ko_steps mi_in21 3 _ (32, [(3, .int l3_2), (2, .int l2_2), (0, .ref 10), (1, .ref 73)], [.int l2_2, .ref 11], (0, 0), ks i2 a2 q2 r2) (by rfl) ?_
            refine ko_iald3 mi_k21.1 (n := 121) (c := 121) (ax := (0, 0, 0, 0, 0)) (mi_k21.2 _ _ (by rfl)) (by rfl) (ksG11 _ _ _ _) (hL2.I.2.1 11) rfl (oz389 c8 kn0) (oz1034 c11 fi2_643.2) ?_
            first | refine ft_go mi_k21 4 40 [(4, .int ((a2 11).getD l2_2.toNatClampNeg 0)), (3, .int l3_2), (2, .int l2_2), (0, .ref 10), (1, .ref 73)] [.int l2_2, .ref 12] i2 a2 q2 r2 (by rfl) ?_ | refine ko_steps mi_in21 4 _ (40, [(4, .int ((a2 11).getD l2_2.toNatClampNeg 0)), (3, .int l3_2), (2, .int l2_2), (0, .ref 10), (1, .ref 73)], [.int l2_2, .ref 12], (0, 0), ks i2 a2 q2 r2) (by rfl) ?_
            refine ko_iald3 mi_k21.1 (n := 121) (c := 121) (ax := (0, 0, 0, 0, 0)) (mi_k21.2 _ _ (by rfl)) (by rfl) (ksG12 _ _ _ _) (hL2.I.2.1 12) rfl (oz389 c8 kn0) (oz1034 c11 fi2_643.2) ?_
            have s12 : (l2_2 + 1).toInt = l2_2.toInt + (1 : Int32).toInt := kd_add (oz950 c8 kn0 kn1) (oz1035 c11 fi2_643.2 kn1)
            first | refine ft_go mi_k21 3 48 [(2, .int (l2_2 + 1)), (5, .int ((a2 12).getD l2_2.toNatClampNeg 0)), (4, .int ((a2 11).getD l2_2.toNatClampNeg 0)), (3, .int l3_2), (0, .ref 10), (1, .ref 73)] [.int ((a2 11).getD l2_2.toNatClampNeg 0)] i2 a2 q2 r2 (by rfl) ?_ | refine ko_steps mi_in21 3 _ (48, [(2, .int (l2_2 + 1)), (5, .int ((a2 12).getD l2_2.toNatClampNeg 0)), (4, .int ((a2 11).getD l2_2.toNatClampNeg 0)), (3, .int l3_2), (0, .ref 10), (1, .ref 73)], [.int ((a2 11).getD l2_2.toNatClampNeg 0)], (0, 0), ks i2 a2 q2 r2) (by rfl) ?_
            by_cases w13 : ((a2 11).getD l2_2.toNatClampNeg 0).toInt = 0
            ·
              refine ft_swx mi_k21 (pc := 48) (v := 0) (t := 108) (kj_eq w13 (by decide) : ((a2 11).getD l2_2.toNatClampNeg 0) = 0) (by decide +kernel) ?_
              first | refine ft_go mi_k21 2 111 [(2, .int (l2_2 + 1)), (5, .int ((a2 12).getD l2_2.toNatClampNeg 0)), (4, .int ((a2 11).getD l2_2.toNatClampNeg 0)), (3, .int l3_2), (0, .ref 10), (1, .ref 73)] [.int ((a2 12).getD l2_2.toNatClampNeg 0), .ref 10] i2 a2 q2 r2 (by rfl) ?_ | refine ko_steps mi_in21 2 _ (111, [(2, .int (l2_2 + 1)), (5, .int ((a2 12).getD l2_2.toNatClampNeg 0)), (4, .int ((a2 11).getD l2_2.toNatClampNeg 0)), (3, .int l3_2), (0, .ref 10), (1, .ref 73)], [.int ((a2 12).getD l2_2.toNatClampNeg 0), .ref 10], (0, 0), ks i2 a2 q2 r2) (by rfl) ?_
              refine ko_callN mi_k21.1 (pc := 111) (ls := [(2, .int (l2_2 + 1)), (5, .int ((a2 12).getD l2_2.toNatClampNeg 0)), (4, .int ((a2 11).getD l2_2.toNatClampNeg 0)), (3, .int l3_2), (0, .ref 10), (1, .ref 73)]) (st := [.int ((a2 12).getD l2_2.toNatClampNeg 0), .ref 10]) (h := ks i2 a2 q2 r2) (i := (.invokevirtual 32, 3, 19, 0, 9, 0, 225)) (mi_k21.2 _ _ (by rfl)) (ft_invS mi_pq19 (by rfl)) (cy := mi_c19) mi_pq19 rfl (kc19_10 hL2.I hL2.R ((a2 12).getD l2_2.toNatClampNeg 0)) (by decide) ?_
              intro ig14 ag14 qg14 rg14 kg14 hg14
              have hGg14 := kG_call hL2 kg14 (by decide +kernel)
              have s15 : (l3_2 + 1).toInt = l3_2.toInt + (1 : Int32).toInt := kd_add (oz12 p2_0 kn1) (oz1036 c5 kn121 kn1)
              first | refine ft_go mi_k21 3 9 [(3, .int (l3_2 + 1)), (2, .int (l2_2 + 1)), (5, .int ((a2 12).getD l2_2.toNatClampNeg 0)), (4, .int ((a2 11).getD l2_2.toNatClampNeg 0)), (0, .ref 10), (1, .ref 73)] [] ig14 ag14 qg14 rg14 (by rfl) ?_ | refine ko_steps mi_in21 3 _ (9, [(3, .int (l3_2 + 1)), (2, .int (l2_2 + 1)), (5, .int ((a2 12).getD l2_2.toNatClampNeg 0)), (4, .int ((a2 11).getD l2_2.toNatClampNeg 0)), (0, .ref 10), (1, .ref 73)], [], (0, 0), ks ig14 ag14 qg14 rg14) (by rfl) ?_
              refine ko_perm [(3, .int (l3_2 + 1)), (2, .int (l2_2 + 1)), (0, .ref 10), (1, .ref 73)] (List.forall_mem_cons.mpr ⟨(List.Mem.head _), (List.forall_mem_cons.mpr ⟨(List.Mem.tail _ (List.Mem.head _)), (List.forall_mem_cons.mpr ⟨(List.Mem.tail _ (List.Mem.tail _ (List.Mem.tail _ (List.Mem.tail _ (List.Mem.head _))))), (List.forall_mem_cons.mpr ⟨(List.Mem.tail _ (List.Mem.tail _ (List.Mem.tail _ (List.Mem.tail _ (List.Mem.tail _ (List.Mem.head _)))))), (fun _ h => absurd h List.not_mem_nil)⟩)⟩)⟩)⟩) ?_
              exact ih2 _ _ _ _ _ _ hGg14 (oz14 p2_0 s15 kn1) (kj_meas (oz1037 s15 kn1) (oz1038 c5 kn121) hm2)
            by_cases w16 : ((a2 11).getD l2_2.toNatClampNeg 0).toInt = 1
            ·
              refine ft_swx mi_k21 (pc := 48) (v := 1) (t := 117) (kj_eq w16 (by decide) : ((a2 11).getD l2_2.toNatClampNeg 0) = 1) (by decide +kernel) ?_
              first | refine ft_go mi_k21 2 120 [(2, .int (l2_2 + 1)), (5, .int ((a2 12).getD l2_2.toNatClampNeg 0)), (4, .int ((a2 11).getD l2_2.toNatClampNeg 0)), (3, .int l3_2), (0, .ref 10), (1, .ref 73)] [.int ((a2 12).getD l2_2.toNatClampNeg 0), .ref 10] i2 a2 q2 r2 (by rfl) ?_ | refine ko_steps mi_in21 2 _ (120, [(2, .int (l2_2 + 1)), (5, .int ((a2 12).getD l2_2.toNatClampNeg 0)), (4, .int ((a2 11).getD l2_2.toNatClampNeg 0)), (3, .int l3_2), (0, .ref 10), (1, .ref 73)], [.int ((a2 12).getD l2_2.toNatClampNeg 0), .ref 10], (0, 0), ks i2 a2 q2 r2) (by rfl) ?_
              refine ft_if mi_k21 (decide (((a2 12).getD l2_2.toNatClampNeg 0) < 0)) 137 123 [(2, .int (l2_2 + 1)), (5, .int ((a2 12).getD l2_2.toNatClampNeg 0)), (4, .int ((a2 11).getD l2_2.toNatClampNeg 0)), (3, .int l3_2), (0, .ref 10), (1, .ref 73)] [.ref 10] (by rfl) (fun c => ?_) (fun c => ?_)
              ·
                have c17 : ((a2 12).getD l2_2.toNatClampNeg 0).toInt < (0 : Int32).toInt := kd_lt c; clear c
                first | refine ft_go mi_k21 1 138 [(2, .int (l2_2 + 1)), (5, .int ((a2 12).getD l2_2.toNatClampNeg 0)), (4, .int ((a2 11).getD l2_2.toNatClampNeg 0)), (3, .int l3_2), (0, .ref 10), (1, .ref 73)] [.int 0, .ref 10] i2 a2 q2 r2 (by rfl) ?_ | refine ko_steps mi_in21 1 _ (138, [(2, .int (l2_2 + 1)), (5, .int ((a2 12).getD l2_2.toNatClampNeg 0)), (4, .int ((a2 11).getD l2_2.toNatClampNeg 0)), (3, .int l3_2), (0, .ref 10), (1, .ref 73)], [.int 0, .ref 10], (0, 0), ks i2 a2 q2 r2) (by rfl) ?_
                refine ko_callN mi_k21.1 (pc := 138) (ls := [(2, .int (l2_2 + 1)), (5, .int ((a2 12).getD l2_2.toNatClampNeg 0)), (4, .int ((a2 11).getD l2_2.toNatClampNeg 0)), (3, .int l3_2), (0, .ref 10), (1, .ref 73)]) (st := [.int 0, .ref 10]) (h := ks i2 a2 q2 r2) (i := (.invokevirtual 32, 3, 19, 0, 9, 0, 225)) (mi_k21.2 _ _ (by rfl)) (ft_invS mi_pq19 (by rfl)) (cy := mi_c19) mi_pq19 rfl (kc19_10 hL2.I hL2.R 0) (by decide) ?_
                intro ig18 ag18 qg18 rg18 kg18 hg18
                have hGg18 := kG_call hL2 kg18 (by decide +kernel)
                have s19 : (l3_2 + 1).toInt = l3_2.toInt + (1 : Int32).toInt := kd_add (oz12 p2_0 kn1) (oz1036 c5 kn121 kn1)
                first | refine ft_go mi_k21 3 9 [(3, .int (l3_2 + 1)), (2, .int (l2_2 + 1)), (5, .int ((a2 12).getD l2_2.toNatClampNeg 0)), (4, .int ((a2 11).getD l2_2.toNatClampNeg 0)), (0, .ref 10), (1, .ref 73)] [] ig18 ag18 qg18 rg18 (by rfl) ?_ | refine ko_steps mi_in21 3 _ (9, [(3, .int (l3_2 + 1)), (2, .int (l2_2 + 1)), (5, .int ((a2 12).getD l2_2.toNatClampNeg 0)), (4, .int ((a2 11).getD l2_2.toNatClampNeg 0)), (0, .ref 10), (1, .ref 73)], [], (0, 0), ks ig18 ag18 qg18 rg18) (by rfl) ?_
                refine ko_perm [(3, .int (l3_2 + 1)), (2, .int (l2_2 + 1)), (0, .ref 10), (1, .ref 73)] (List.forall_mem_cons.mpr ⟨(List.Mem.head _), (List.forall_mem_cons.mpr ⟨(List.Mem.tail _ (List.Mem.head _)), (List.forall_mem_cons.mpr ⟨(List.Mem.tail _ (List.Mem.tail _ (List.Mem.tail _ (List.Mem.tail _ (List.Mem.head _))))), (List.forall_mem_cons.mpr ⟨(List.Mem.tail _ (List.Mem.tail _ (List.Mem.tail _ (List.Mem.tail _ (List.Mem.tail _ (List.Mem.head _)))))), (fun _ h => absurd h List.not_mem_nil)⟩)⟩)⟩)⟩) ?_
                exact ih2 _ _ _ _ _ _ hGg18 (oz14 p2_0 s19 kn1) (kj_meas (oz1037 s19 kn1) (oz1038 c5 kn121) hm2)
              ·
                have c20 : (0 : Int32).toInt ≤ ((a2 12).getD l2_2.toNatClampNeg 0).toInt := kd_ltF c; clear c
                first | refine ft_go mi_k21 2 126 [(2, .int (l2_2 + 1)), (5, .int ((a2 12).getD l2_2.toNatClampNeg 0)), (4, .int ((a2 11).getD l2_2.toNatClampNeg 0)), (3, .int l3_2), (0, .ref 10), (1, .ref 73)] [.ref 73, .int ((a2 12).getD l2_2.toNatClampNeg 0), .ref 10] i2 a2 q2 r2 (by rfl) ?_ | refine ko_steps mi_in21 2 _ (126, [(2, .int (l2_2 + 1)), (5, .int ((a2 12).getD l2_2.toNatClampNeg 0)), (4, .int ((a2 11).getD l2_2.toNatClampNeg 0)), (3, .int l3_2), (0, .ref 10), (1, .ref 73)], [.ref 73, .int ((a2 12).getD l2_2.toNatClampNeg 0), .ref 10], (0, 0), ks i2 a2 q2 r2) (by rfl) ?_
                refine ko_alen mi_k21.1 (l := a2 73) (ax := (0, 0, 0, 0, 0)) (x := 6) (mi_k21.2 _ _ (by rfl)) (by rfl) (by rfl) (by rw [(hL2.I.2.1 73 : (a2 73).length = _)]; rfl) ?_
                refine ft_if mi_k21 (decide (6 ≤ ((a2 12).getD l2_2.toNatClampNeg 0))) 137 130 [(2, .int (l2_2 + 1)), (5, .int ((a2 12).getD l2_2.toNatClampNeg 0)), (4, .int ((a2 11).getD l2_2.toNatClampNeg 0)), (3, .int l3_2), (0, .ref 10), (1, .ref 73)] [.ref 10] (by rfl) (fun c => ?_) (fun c => ?_)
                ·
                  have c21 : (6 : Int32).toInt ≤ ((a2 12).getD l2_2.toNatClampNeg 0).toInt := kd_le c; clear c
                  first | refine ft_go mi_k21 1 138 [(2, .int (l2_2 + 1)), (5, .int ((a2 12).getD l2_2.toNatClampNeg 0)), (4, .int ((a2 11).getD l2_2.toNatClampNeg 0)), (3, .int l3_2), (0, .ref 10), (1, .ref 73)] [.int 0, .ref 10] i2 a2 q2 r2 (by rfl) ?_ | refine ko_steps mi_in21 1 _ (138, [(2, .int (l2_2 + 1)), (5, .int ((a2 12).getD l2_2.toNatClampNeg 0)), (4, .int ((a2 11).getD l2_2.toNatClampNeg 0)), (3, .int l3_2), (0, .ref 10), (1, .ref 73)], [.int 0, .ref 10], (0, 0), ks i2 a2 q2 r2) (by rfl) ?_
                  refine ko_callN mi_k21.1 (pc := 138) (ls := [(2, .int (l2_2 + 1)), (5, .int ((a2 12).getD l2_2.toNatClampNeg 0)), (4, .int ((a2 11).getD l2_2.toNatClampNeg 0)), (3, .int l3_2), (0, .ref 10), (1, .ref 73)]) (st := [.int 0, .ref 10]) (h := ks i2 a2 q2 r2) (i := (.invokevirtual 32, 3, 19, 0, 9, 0, 225)) (mi_k21.2 _ _ (by rfl)) (ft_invS mi_pq19 (by rfl)) (cy := mi_c19) mi_pq19 rfl (kc19_10 hL2.I hL2.R 0) (by decide) ?_
                  intro ig22 ag22 qg22 rg22 kg22 hg22
                  have hGg22 := kG_call hL2 kg22 (by decide +kernel)
                  have s23 : (l3_2 + 1).toInt = l3_2.toInt + (1 : Int32).toInt := kd_add (oz12 p2_0 kn1) (oz1036 c5 kn121 kn1)
                  first | refine ft_go mi_k21 3 9 [(3, .int (l3_2 + 1)), (2, .int (l2_2 + 1)), (5, .int ((a2 12).getD l2_2.toNatClampNeg 0)), (4, .int ((a2 11).getD l2_2.toNatClampNeg 0)), (0, .ref 10), (1, .ref 73)] [] ig22 ag22 qg22 rg22 (by rfl) ?_ | refine ko_steps mi_in21 3 _ (9, [(3, .int (l3_2 + 1)), (2, .int (l2_2 + 1)), (5, .int ((a2 12).getD l2_2.toNatClampNeg 0)), (4, .int ((a2 11).getD l2_2.toNatClampNeg 0)), (0, .ref 10), (1, .ref 73)], [], (0, 0), ks ig22 ag22 qg22 rg22) (by rfl) ?_
                  refine ko_perm [(3, .int (l3_2 + 1)), (2, .int (l2_2 + 1)), (0, .ref 10), (1, .ref 73)] (List.forall_mem_cons.mpr ⟨(List.Mem.head _), (List.forall_mem_cons.mpr ⟨(List.Mem.tail _ (List.Mem.head _)), (List.forall_mem_cons.mpr ⟨(List.Mem.tail _ (List.Mem.tail _ (List.Mem.tail _ (List.Mem.tail _ (List.Mem.head _))))), (List.forall_mem_cons.mpr ⟨(List.Mem.tail _ (List.Mem.tail _ (List.Mem.tail _ (List.Mem.tail _ (List.Mem.tail _ (List.Mem.head _)))))), (fun _ h => absurd h List.not_mem_nil)⟩)⟩)⟩)⟩) ?_
                  exact ih2 _ _ _ _ _ _ hGg22 (oz14 p2_0 s23 kn1) (kj_meas (oz1037 s23 kn1) (oz1038 c5 kn121) hm2)
                ·
                  have c24 : ((a2 12).getD l2_2.toNatClampNeg 0).toInt < (6 : Int32).toInt := kd_leF c; clear c
                  first | refine ft_go mi_k21 2 133 [(2, .int (l2_2 + 1)), (5, .int ((a2 12).getD l2_2.toNatClampNeg 0)), (4, .int ((a2 11).getD l2_2.toNatClampNeg 0)), (3, .int l3_2), (0, .ref 10), (1, .ref 73)] [.int ((a2 12).getD l2_2.toNatClampNeg 0), .ref 73, .ref 10] i2 a2 q2 r2 (by rfl) ?_ | refine ko_steps mi_in21 2 _ (133, [(2, .int (l2_2 + 1)), (5, .int ((a2 12).getD l2_2.toNatClampNeg 0)), (4, .int ((a2 11).getD l2_2.toNatClampNeg 0)), (3, .int l3_2), (0, .ref 10), (1, .ref 73)], [.int ((a2 12).getD l2_2.toNatClampNeg 0), .ref 73, .ref 10], (0, 0), ks i2 a2 q2 r2) (by rfl) ?_
                  refine ko_iald3 mi_k21.1 (n := 6) (c := 6) (ax := (0, 0, 0, 0, 0)) (mi_k21.2 _ _ (by rfl)) (by rfl) (ksG73 _ _ _ _) (hL2.I.2.1 73) rfl (oz389 c20 kn0) (oz1039 c24 kn6) ?_
                  first | refine ft_go mi_k21 1 138 [(2, .int (l2_2 + 1)), (5, .int ((a2 12).getD l2_2.toNatClampNeg 0)), (4, .int ((a2 11).getD l2_2.toNatClampNeg 0)), (3, .int l3_2), (0, .ref 10), (1, .ref 73)] [.int ((a2 73).getD ((a2 12).getD l2_2.toNatClampNeg 0).toNatClampNeg 0), .ref 10] i2 a2 q2 r2 (by rfl) ?_ | refine ko_steps mi_in21 1 _ (138, [(2, .int (l2_2 + 1)), (5, .int ((a2 12).getD l2_2.toNatClampNeg 0)), (4, .int ((a2 11).getD l2_2.toNatClampNeg 0)), (3, .int l3_2), (0, .ref 10), (1, .ref 73)], [.int ((a2 73).getD ((a2 12).getD l2_2.toNatClampNeg 0).toNatClampNeg 0), .ref 10], (0, 0), ks i2 a2 q2 r2) (by rfl) ?_
                  refine ko_callN mi_k21.1 (pc := 138) (ls := [(2, .int (l2_2 + 1)), (5, .int ((a2 12).getD l2_2.toNatClampNeg 0)), (4, .int ((a2 11).getD l2_2.toNatClampNeg 0)), (3, .int l3_2), (0, .ref 10), (1, .ref 73)]) (st := [.int ((a2 73).getD ((a2 12).getD l2_2.toNatClampNeg 0).toNatClampNeg 0), .ref 10]) (h := ks i2 a2 q2 r2) (i := (.invokevirtual 32, 3, 19, 0, 9, 0, 225)) (mi_k21.2 _ _ (by rfl)) (ft_invS mi_pq19 (by rfl)) (cy := mi_c19) mi_pq19 rfl (kc19_10 hL2.I hL2.R ((a2 73).getD ((a2 12).getD l2_2.toNatClampNeg 0).toNatClampNeg 0)) (by decide) ?_
                  intro ig25 ag25 qg25 rg25 kg25 hg25
                  have hGg25 := kG_call hL2 kg25 (by decide +kernel)
                  have s26 : (l3_2 + 1).toInt = l3_2.toInt + (1 : Int32).toInt := kd_add (oz12 p2_0 kn1) (oz1036 c5 kn121 kn1)
                  first | refine ft_go mi_k21 3 9 [(3, .int (l3_2 + 1)), (2, .int (l2_2 + 1)), (5, .int ((a2 12).getD l2_2.toNatClampNeg 0)), (4, .int ((a2 11).getD l2_2.toNatClampNeg 0)), (0, .ref 10), (1, .ref 73)] [] ig25 ag25 qg25 rg25 (by rfl) ?_ | refine ko_steps mi_in21 3 _ (9, [(3, .int (l3_2 + 1)), (2, .int (l2_2 + 1)), (5, .int ((a2 12).getD l2_2.toNatClampNeg 0)), (4, .int ((a2 11).getD l2_2.toNatClampNeg 0)), (0, .ref 10), (1, .ref 73)], [], (0, 0), ks ig25 ag25 qg25 rg25) (by rfl) ?_
                  refine ko_perm [(3, .int (l3_2 + 1)), (2, .int (l2_2 + 1)), (0, .ref 10), (1, .ref 73)] (List.forall_mem_cons.mpr ⟨(List.Mem.head _), (List.forall_mem_cons.mpr ⟨(List.Mem.tail _ (List.Mem.head _)), (List.forall_mem_cons.mpr ⟨(List.Mem.tail _ (List.Mem.tail _ (List.Mem.tail _ (List.Mem.tail _ (List.Mem.head _))))), (List.forall_mem_cons.mpr ⟨(List.Mem.tail _ (List.Mem.tail _ (List.Mem.tail _ (List.Mem.tail _ (List.Mem.tail _ (List.Mem.head _)))))), (fun _ h => absurd h List.not_mem_nil)⟩)⟩)⟩)⟩) ?_
                  exact ih2 _ _ _ _ _ _ hGg25 (oz14 p2_0 s26 kn1) (kj_meas (oz1037 s26 kn1) (oz1038 c5 kn121) hm2)
            by_cases w27 : ((a2 11).getD l2_2.toNatClampNeg 0).toInt = 2
            ·
              refine ft_swx mi_k21 (pc := 48) (v := 2) (t := 144) (kj_eq w27 (by decide) : ((a2 11).getD l2_2.toNatClampNeg 0) = 2) (by decide +kernel) ?_
              have hG28 := kG_call hJ1 hL2 (by decide +kernel)
              first | refine ft_go mi_k21 1 145 [(2, .int (l2_2 + 1)), (5, .int ((a2 12).getD l2_2.toNatClampNeg 0)), (4, .int ((a2 11).getD l2_2.toNatClampNeg 0)), (3, .int l3_2), (0, .ref 10), (1, .ref 73)] [.ref 10] i2 a2 q2 r2 (by rfl) ?_ | refine ko_steps mi_in21 1 _ (145, [(2, .int (l2_2 + 1)), (5, .int ((a2 12).getD l2_2.toNatClampNeg 0)), (4, .int ((a2 11).getD l2_2.toNatClampNeg 0)), (3, .int l3_2), (0, .ref 10), (1, .ref 73)], [.ref 10], (0, 0), ks i2 a2 q2 r2) (by rfl) ?_
              refine ko_callI mi_k21.1 (pc := 145) (ls := [(2, .int (l2_2 + 1)), (5, .int ((a2 12).getD l2_2.toNatClampNeg 0)), (4, .int ((a2 11).getD l2_2.toNatClampNeg 0)), (3, .int l3_2), (0, .ref 10), (1, .ref 73)]) (st := [.ref 10]) (h := ks i2 a2 q2 r2) (i := (.invokevirtual 36, 3, 20, 0, 9, 0, 226)) (mi_k21.2 _ _ (by rfl)) (ft_invS mi_pq20 (by rfl)) (cy := mi_c20) mi_pq20 rfl (kc20_10 hG28.I hG28.R ) (by decide) ?_
              intro vg29 ig29 ag29 qg29 rg29 kg29 hg29
              have hGg29 := kG_call hG28 kg29 (by decide +kernel)
              exact ft_ret mi_k21 (by rfl) (hP vg29 _ _ _ _ hGg29 trivial)
            by_cases w30 : ((a2 11).getD l2_2.toNatClampNeg 0).toInt = 3
            ·
              refine ft_swx mi_k21 (pc := 48) (v := 3) (t := 149) (kj_eq w30 (by decide) : ((a2 11).getD l2_2.toNatClampNeg 0) = 3) (by decide +kernel) ?_
              first | refine ft_go mi_k21 1 150 [(2, .int (l2_2 + 1)), (5, .int ((a2 12).getD l2_2.toNatClampNeg 0)), (4, .int ((a2 11).getD l2_2.toNatClampNeg 0)), (3, .int l3_2), (0, .ref 10), (1, .ref 73)] [.ref 10] i2 a2 q2 r2 (by rfl) ?_ | refine ko_steps mi_in21 1 _ (150, [(2, .int (l2_2 + 1)), (5, .int ((a2 12).getD l2_2.toNatClampNeg 0)), (4, .int ((a2 11).getD l2_2.toNatClampNeg 0)), (3, .int l3_2), (0, .ref 10), (1, .ref 73)], [.ref 10], (0, 0), ks i2 a2 q2 r2) (by rfl) ?_
              refine ko_callI mi_k21.1 (pc := 150) (ls := [(2, .int (l2_2 + 1)), (5, .int ((a2 12).getD l2_2.toNatClampNeg 0)), (4, .int ((a2 11).getD l2_2.toNatClampNeg 0)), (3, .int l3_2), (0, .ref 10), (1, .ref 73)]) (st := [.ref 10]) (h := ks i2 a2 q2 r2) (i := (.invokevirtual 36, 3, 20, 0, 9, 0, 226)) (mi_k21.2 _ _ (by rfl)) (ft_invS mi_pq20 (by rfl)) (cy := mi_c20) mi_pq20 rfl (kc20_10 hL2.I hL2.R ) (by decide) ?_
              intro vg31 ig31 ag31 qg31 rg31 kg31 hg31
              have hGg31 := kG_call hL2 kg31 (by decide +kernel)
              refine ft_if mi_k21 (vg31 != 0) 214 156 [(2, .int (l2_2 + 1)), (5, .int ((a2 12).getD l2_2.toNatClampNeg 0)), (4, .int ((a2 11).getD l2_2.toNatClampNeg 0)), (3, .int l3_2), (0, .ref 10), (1, .ref 73)] [] (by rfl) (fun c => ?_) (fun c => ?_)
              ·
                have c32 : vg31.toInt ≠ (0 : Int32).toInt := kd_ne c; clear c
                have s33 : (l3_2 + 1).toInt = l3_2.toInt + (1 : Int32).toInt := kd_add (oz12 p2_0 kn1) (oz1036 c5 kn121 kn1)
                first | refine ft_go mi_k21 2 9 [(3, .int (l3_2 + 1)), (2, .int (l2_2 + 1)), (5, .int ((a2 12).getD l2_2.toNatClampNeg 0)), (4, .int ((a2 11).getD l2_2.toNatClampNeg 0)), (0, .ref 10), (1, .ref 73)] [] ig31 ag31 qg31 rg31 (by rfl) ?_ | refine ko_steps mi_in21 2 _ (9, [(3, .int (l3_2 + 1)), (2, .int (l2_2 + 1)), (5, .int ((a2 12).getD l2_2.toNatClampNeg 0)), (4, .int ((a2 11).getD l2_2.toNatClampNeg 0)), (0, .ref 10), (1, .ref 73)], [], (0, 0), ks ig31 ag31 qg31 rg31) (by rfl) ?_
                refine ko_perm [(3, .int (l3_2 + 1)), (2, .int (l2_2 + 1)), (0, .ref 10), (1, .ref 73)] (List.forall_mem_cons.mpr ⟨(List.Mem.head _), (List.forall_mem_cons.mpr ⟨(List.Mem.tail _ (List.Mem.head _)), (List.forall_mem_cons.mpr ⟨(List.Mem.tail _ (List.Mem.tail _ (List.Mem.tail _ (List.Mem.tail _ (List.Mem.head _))))), (List.forall_mem_cons.mpr ⟨(List.Mem.tail _ (List.Mem.tail _ (List.Mem.tail _ (List.Mem.tail _ (List.Mem.tail _ (List.Mem.head _)))))), (fun _ h => absurd h List.not_mem_nil)⟩)⟩)⟩)⟩) ?_
                exact ih2 _ _ _ _ _ _ hGg31 (oz14 p2_0 s33 kn1) (kj_meas (oz1037 s33 kn1) (oz1038 c5 kn121) hm2)
              ·
                have c34 : vg31.toInt = (0 : Int32).toInt := kd_neF c; clear c
                have s35 : (l3_2 + 1).toInt = l3_2.toInt + (1 : Int32).toInt := kd_add (oz12 p2_0 kn1) (oz1036 c5 kn121 kn1)
                first | refine ft_go mi_k21 5 9 [(3, .int (l3_2 + 1)), (2, .int ((a2 12).getD l2_2.toNatClampNeg 0)), (5, .int ((a2 12).getD l2_2.toNatClampNeg 0)), (4, .int ((a2 11).getD l2_2.toNatClampNeg 0)), (0, .ref 10), (1, .ref 73)] [] ig31 ag31 qg31 rg31 (by rfl) ?_ | refine ko_steps mi_in21 5 _ (9, [(3, .int (l3_2 + 1)), (2, .int ((a2 12).getD l2_2.toNatClampNeg 0)), (5, .int ((a2 12).getD l2_2.toNatClampNeg 0)), (4, .int ((a2 11).getD l2_2.toNatClampNeg 0)), (0, .ref 10), (1, .ref 73)], [], (0, 0), ks ig31 ag31 qg31 rg31) (by rfl) ?_
                refine ko_perm [(3, .int (l3_2 + 1)), (2, .int ((a2 12).getD l2_2.toNatClampNeg 0)), (0, .ref 10), (1, .ref 73)] (List.forall_mem_cons.mpr ⟨(List.Mem.head _), (List.forall_mem_cons.mpr ⟨(List.Mem.tail _ (List.Mem.head _)), (List.forall_mem_cons.mpr ⟨(List.Mem.tail _ (List.Mem.tail _ (List.Mem.tail _ (List.Mem.tail _ (List.Mem.head _))))), (List.forall_mem_cons.mpr ⟨(List.Mem.tail _ (List.Mem.tail _ (List.Mem.tail _ (List.Mem.tail _ (List.Mem.tail _ (List.Mem.head _)))))), (fun _ h => absurd h List.not_mem_nil)⟩)⟩)⟩)⟩) ?_
                exact ih2 _ _ _ _ _ _ hGg31 (oz14 p2_0 s35 kn1) (kj_meas (oz1037 s35 kn1) (oz1038 c5 kn121) hm2)
            by_cases w36 : ((a2 11).getD l2_2.toNatClampNeg 0).toInt = 33
            ·
              refine ft_swx mi_k21 (pc := 48) (v := 33) (t := 162) (kj_eq w36 (by decide) : ((a2 11).getD l2_2.toNatClampNeg 0) = 33) (by decide +kernel) ?_
              first | refine ft_go mi_k21 2 164 [(2, .int (l2_2 + 1)), (5, .int ((a2 12).getD l2_2.toNatClampNeg 0)), (4, .int ((a2 11).getD l2_2.toNatClampNeg 0)), (3, .int l3_2), (0, .ref 10), (1, .ref 73)] [.ref 10, .ref 10] i2 a2 q2 r2 (by rfl) ?_ | refine ko_steps mi_in21 2 _ (164, [(2, .int (l2_2 + 1)), (5, .int ((a2 12).getD l2_2.toNatClampNeg 0)), (4, .int ((a2 11).getD l2_2.toNatClampNeg 0)), (3, .int l3_2), (0, .ref 10), (1, .ref 73)], [.ref 10, .ref 10], (0, 0), ks i2 a2 q2 r2) (by rfl) ?_
              refine ko_callI mi_k21.1 (pc := 164) (ls := [(2, .int (l2_2 + 1)), (5, .int ((a2 12).getD l2_2.toNatClampNeg 0)), (4, .int ((a2 11).getD l2_2.toNatClampNeg 0)), (3, .int l3_2), (0, .ref 10), (1, .ref 73)]) (st := [.ref 10, .ref 10]) (h := ks i2 a2 q2 r2) (i := (.invokevirtual 36, 3, 20, 0, 9, 0, 226)) (mi_k21.2 _ _ (by rfl)) (ft_invS mi_pq20 (by rfl)) (cy := mi_c20) mi_pq20 rfl (kc20_10 hL2.I hL2.R ) (by decide) ?_
              intro vg37 ig37 ag37 qg37 rg37 kg37 hg37
              have hGg37 := kG_call hL2 kg37 (by decide +kernel)
              refine ft_if mi_k21 (vg37 != 0) 174 170 [(2, .int (l2_2 + 1)), (5, .int ((a2 12).getD l2_2.toNatClampNeg 0)), (4, .int ((a2 11).getD l2_2.toNatClampNeg 0)), (3, .int l3_2), (0, .ref 10), (1, .ref 73)] [.ref 10] (by rfl) (fun c => ?_) (fun c => ?_)
              ·
                have c38 : vg37.toInt ≠ (0 : Int32).toInt := kd_ne c; clear c
                first | refine ft_go mi_k21 1 175 [(2, .int (l2_2 + 1)), (5, .int ((a2 12).getD l2_2.toNatClampNeg 0)), (4, .int ((a2 11).getD l2_2.toNatClampNeg 0)), (3, .int l3_2), (0, .ref 10), (1, .ref 73)] [.int 0, .ref 10] ig37 ag37 qg37 rg37 (by rfl) ?_ | refine ko_steps mi_in21 1 _ (175, [(2, .int (l2_2 + 1)), (5, .int ((a2 12).getD l2_2.toNatClampNeg 0)), (4, .int ((a2 11).getD l2_2.toNatClampNeg 0)), (3, .int l3_2), (0, .ref 10), (1, .ref 73)], [.int 0, .ref 10], (0, 0), ks ig37 ag37 qg37 rg37) (by rfl) ?_
                refine ko_callN mi_k21.1 (pc := 175) (ls := [(2, .int (l2_2 + 1)), (5, .int ((a2 12).getD l2_2.toNatClampNeg 0)), (4, .int ((a2 11).getD l2_2.toNatClampNeg 0)), (3, .int l3_2), (0, .ref 10), (1, .ref 73)]) (st := [.int 0, .ref 10]) (h := ks ig37 ag37 qg37 rg37) (i := (.invokevirtual 32, 3, 19, 0, 9, 0, 225)) (mi_k21.2 _ _ (by rfl)) (ft_invS mi_pq19 (by rfl)) (cy := mi_c19) mi_pq19 rfl (kc19_10 hGg37.I hGg37.R 0) (by decide) ?_
                intro ig39 ag39 qg39 rg39 kg39 hg39
                have hGg39 := kG_call hGg37 kg39 (by decide +kernel)
                have s40 : (l3_2 + 1).toInt = l3_2.toInt + (1 : Int32).toInt := kd_add (oz12 p2_0 kn1) (oz1036 c5 kn121 kn1)
                first | refine ft_go mi_k21 3 9 [(3, .int (l3_2 + 1)), (2, .int (l2_2 + 1)), (5, .int ((a2 12).getD l2_2.toNatClampNeg 0)), (4, .int ((a2 11).getD l2_2.toNatClampNeg 0)), (0, .ref 10), (1, .ref 73)] [] ig39 ag39 qg39 rg39 (by rfl) ?_ | refine ko_steps mi_in21 3 _ (9, [(3, .int (l3_2 + 1)), (2, .int (l2_2 + 1)), (5, .int ((a2 12).getD l2_2.toNatClampNeg 0)), (4, .int ((a2 11).getD l2_2.toNatClampNeg 0)), (0, .ref 10), (1, .ref 73)], [], (0, 0), ks ig39 ag39 qg39 rg39) (by rfl) ?_
                refine ko_perm [(3, .int (l3_2 + 1)), (2, .int (l2_2 + 1)), (0, .ref 10), (1, .ref 73)] (List.forall_mem_cons.mpr ⟨(List.Mem.head _), (List.forall_mem_cons.mpr ⟨(List.Mem.tail _ (List.Mem.head _)), (List.forall_mem_cons.mpr ⟨(List.Mem.tail _ (List.Mem.tail _ (List.Mem.tail _ (List.Mem.tail _ (List.Mem.head _))))), (List.forall_mem_cons.mpr ⟨(List.Mem.tail _ (List.Mem.tail _ (List.Mem.tail _ (List.Mem.tail _ (List.Mem.tail _ (List.Mem.head _)))))), (fun _ h => absurd h List.not_mem_nil)⟩)⟩)⟩)⟩) ?_
                exact ih2 _ _ _ _ _ _ hGg39 (oz14 p2_0 s40 kn1) (kj_meas (oz1037 s40 kn1) (oz1038 c5 kn121) hm2)
              ·
                have c41 : vg37.toInt = (0 : Int32).toInt := kd_neF c; clear c
                first | refine ft_go mi_k21 2 175 [(2, .int (l2_2 + 1)), (5, .int ((a2 12).getD l2_2.toNatClampNeg 0)), (4, .int ((a2 11).getD l2_2.toNatClampNeg 0)), (3, .int l3_2), (0, .ref 10), (1, .ref 73)] [.int 1, .ref 10] ig37 ag37 qg37 rg37 (by rfl) ?_ | refine ko_steps mi_in21 2 _ (175, [(2, .int (l2_2 + 1)), (5, .int ((a2 12).getD l2_2.toNatClampNeg 0)), (4, .int ((a2 11).getD l2_2.toNatClampNeg 0)), (3, .int l3_2), (0, .ref 10), (1, .ref 73)], [.int 1, .ref 10], (0, 0), ks ig37 ag37 qg37 rg37) (by rfl) ?_
                refine ko_callN mi_k21.1 (pc := 175) (ls := [(2, .int (l2_2 + 1)), (5, .int ((a2 12).getD l2_2.toNatClampNeg 0)), (4, .int ((a2 11).getD l2_2.toNatClampNeg 0)), (3, .int l3_2), (0, .ref 10), (1, .ref 73)]) (st := [.int 1, .ref 10]) (h := ks ig37 ag37 qg37 rg37) (i := (.invokevirtual 32, 3, 19, 0, 9, 0, 225)) (mi_k21.2 _ _ (by rfl)) (ft_invS mi_pq19 (by rfl)) (cy := mi_c19) mi_pq19 rfl (kc19_10 hGg37.I hGg37.R 1) (by decide) ?_
                intro ig42 ag42 qg42 rg42 kg42 hg42
                have hGg42 := kG_call hGg37 kg42 (by decide +kernel)
                have s43 : (l3_2 + 1).toInt = l3_2.toInt + (1 : Int32).toInt := kd_add (oz12 p2_0 kn1) (oz1036 c5 kn121 kn1)
                first | refine ft_go mi_k21 3 9 [(3, .int (l3_2 + 1)), (2, .int (l2_2 + 1)), (5, .int ((a2 12).getD l2_2.toNatClampNeg 0)), (4, .int ((a2 11).getD l2_2.toNatClampNeg 0)), (0, .ref 10), (1, .ref 73)] [] ig42 ag42 qg42 rg42 (by rfl) ?_ | refine ko_steps mi_in21 3 _ (9, [(3, .int (l3_2 + 1)), (2, .int (l2_2 + 1)), (5, .int ((a2 12).getD l2_2.toNatClampNeg 0)), (4, .int ((a2 11).getD l2_2.toNatClampNeg 0)), (0, .ref 10), (1, .ref 73)], [], (0, 0), ks ig42 ag42 qg42 rg42) (by rfl) ?_
                refine ko_perm [(3, .int (l3_2 + 1)), (2, .int (l2_2 + 1)), (0, .ref 10), (1, .ref 73)] (List.forall_mem_cons.mpr ⟨(List.Mem.head _), (List.forall_mem_cons.mpr ⟨(List.Mem.tail _ (List.Mem.head _)), (List.forall_mem_cons.mpr ⟨(List.Mem.tail _ (List.Mem.tail _ (List.Mem.tail _ (List.Mem.tail _ (List.Mem.head _))))), (List.forall_mem_cons.mpr ⟨(List.Mem.tail _ (List.Mem.tail _ (List.Mem.tail _ (List.Mem.tail _ (List.Mem.tail _ (List.Mem.head _)))))), (fun _ h => absurd h List.not_mem_nil)⟩)⟩)⟩)⟩) ?_
                exact ih2 _ _ _ _ _ _ hGg42 (oz14 p2_0 s43 kn1) (kj_meas (oz1037 s43 kn1) (oz1038 c5 kn121) hm2)
            by_cases w44 : ((a2 11).getD l2_2.toNatClampNeg 0).toInt = 126
            ·
              refine ft_swx mi_k21 (pc := 48) (v := 126) (t := 181) (kj_eq w44 (by decide) : ((a2 11).getD l2_2.toNatClampNeg 0) = 126) (by decide +kernel) ?_
              first | refine ft_go mi_k21 2 183 [(2, .int (l2_2 + 1)), (5, .int ((a2 12).getD l2_2.toNatClampNeg 0)), (4, .int ((a2 11).getD l2_2.toNatClampNeg 0)), (3, .int l3_2), (0, .ref 10), (1, .ref 73)] [.ref 10, .ref 10] i2 a2 q2 r2 (by rfl) ?_ | refine ko_steps mi_in21 2 _ (183, [(2, .int (l2_2 + 1)), (5, .int ((a2 12).getD l2_2.toNatClampNeg 0)), (4, .int ((a2 11).getD l2_2.toNatClampNeg 0)), (3, .int l3_2), (0, .ref 10), (1, .ref 73)], [.ref 10, .ref 10], (0, 0), ks i2 a2 q2 r2) (by rfl) ?_
              refine ko_callI mi_k21.1 (pc := 183) (ls := [(2, .int (l2_2 + 1)), (5, .int ((a2 12).getD l2_2.toNatClampNeg 0)), (4, .int ((a2 11).getD l2_2.toNatClampNeg 0)), (3, .int l3_2), (0, .ref 10), (1, .ref 73)]) (st := [.ref 10, .ref 10]) (h := ks i2 a2 q2 r2) (i := (.invokevirtual 36, 3, 20, 0, 9, 0, 226)) (mi_k21.2 _ _ (by rfl)) (ft_invS mi_pq20 (by rfl)) (cy := mi_c20) mi_pq20 rfl (kc20_10 hL2.I hL2.R ) (by decide) ?_
              intro vg45 ig45 ag45 qg45 rg45 kg45 hg45
              have hGg45 := kG_call hL2 kg45 (by decide +kernel)
              first | refine ft_go mi_k21 1 187 [(2, .int (l2_2 + 1)), (5, .int ((a2 12).getD l2_2.toNatClampNeg 0)), (4, .int ((a2 11).getD l2_2.toNatClampNeg 0)), (3, .int l3_2), (0, .ref 10), (1, .ref 73)] [.int (-vg45), .ref 10] ig45 ag45 qg45 rg45 (by rfl) ?_ | refine ko_steps mi_in21 1 _ (187, [(2, .int (l2_2 + 1)), (5, .int ((a2 12).getD l2_2.toNatClampNeg 0)), (4, .int ((a2 11).getD l2_2.toNatClampNeg 0)), (3, .int l3_2), (0, .ref 10), (1, .ref 73)], [.int (-vg45), .ref 10], (0, 0), ks ig45 ag45 qg45 rg45) (by rfl) ?_
              refine ko_callN mi_k21.1 (pc := 187) (ls := [(2, .int (l2_2 + 1)), (5, .int ((a2 12).getD l2_2.toNatClampNeg 0)), (4, .int ((a2 11).getD l2_2.toNatClampNeg 0)), (3, .int l3_2), (0, .ref 10), (1, .ref 73)]) (st := [.int (-vg45), .ref 10]) (h := ks ig45 ag45 qg45 rg45) (i := (.invokevirtual 32, 3, 19, 0, 9, 0, 225)) (mi_k21.2 _ _ (by rfl)) (ft_invS mi_pq19 (by rfl)) (cy := mi_c19) mi_pq19 rfl (kc19_10 hGg45.I hGg45.R (-vg45)) (by decide) ?_
              intro ig46 ag46 qg46 rg46 kg46 hg46
              have hGg46 := kG_call hGg45 kg46 (by decide +kernel)
              have s47 : (l3_2 + 1).toInt = l3_2.toInt + (1 : Int32).toInt := kd_add (oz12 p2_0 kn1) (oz1036 c5 kn121 kn1)
              first | refine ft_go mi_k21 3 9 [(3, .int (l3_2 + 1)), (2, .int (l2_2 + 1)), (5, .int ((a2 12).getD l2_2.toNatClampNeg 0)), (4, .int ((a2 11).getD l2_2.toNatClampNeg 0)), (0, .ref 10), (1, .ref 73)] [] ig46 ag46 qg46 rg46 (by rfl) ?_ | refine ko_steps mi_in21 3 _ (9, [(3, .int (l3_2 + 1)), (2, .int (l2_2 + 1)), (5, .int ((a2 12).getD l2_2.toNatClampNeg 0)), (4, .int ((a2 11).getD l2_2.toNatClampNeg 0)), (0, .ref 10), (1, .ref 73)], [], (0, 0), ks ig46 ag46 qg46 rg46) (by rfl) ?_
              refine ko_perm [(3, .int (l3_2 + 1)), (2, .int (l2_2 + 1)), (0, .ref 10), (1, .ref 73)] (List.forall_mem_cons.mpr ⟨(List.Mem.head _), (List.forall_mem_cons.mpr ⟨(List.Mem.tail _ (List.Mem.head _)), (List.forall_mem_cons.mpr ⟨(List.Mem.tail _ (List.Mem.tail _ (List.Mem.tail _ (List.Mem.tail _ (List.Mem.head _))))), (List.forall_mem_cons.mpr ⟨(List.Mem.tail _ (List.Mem.tail _ (List.Mem.tail _ (List.Mem.tail _ (List.Mem.tail _ (List.Mem.head _)))))), (fun _ h => absurd h List.not_mem_nil)⟩)⟩)⟩)⟩) ?_
              exact ih2 _ _ _ _ _ _ hGg46 (oz14 p2_0 s47 kn1) (kj_meas (oz1037 s47 kn1) (oz1038 c5 kn121) hm2)
            refine ko_lsw (ls := [(2, .int (l2_2 + 1)), (5, .int ((a2 12).getD l2_2.toNatClampNeg 0)), (4, .int ((a2 11).getD l2_2.toNatClampNeg 0)), (3, .int l3_2), (0, .ref 10), (1, .ref 73)]) (r := []) (h := ks i2 a2 q2 r2) mi_in21 (v := ((a2 11).getD l2_2.toNatClampNeg 0)) (i := (.lookupswitch 145 #[(0, 60), (1, 69), (2, 96), (3, 101), (33, 114), (126, 133)], 60, 0, 0, 0, 0, 0)) (by rfl) rfl (by simp only [Op.lookupswitch.offset, if_neg (Ne.symm w13), if_neg (Ne.symm w16), if_neg (Ne.symm w27), if_neg (Ne.symm w30), if_neg (Ne.symm w36), if_neg (Ne.symm w44)] <;> rfl) 193 (by rfl) ?_
            first | refine ft_go mi_k21 1 194 [(2, .int (l2_2 + 1)), (5, .int ((a2 12).getD l2_2.toNatClampNeg 0)), (4, .int ((a2 11).getD l2_2.toNatClampNeg 0)), (3, .int l3_2), (0, .ref 10), (1, .ref 73)] [.ref 10] i2 a2 q2 r2 (by rfl) ?_ | refine ko_steps mi_in21 1 _ (194, [(2, .int (l2_2 + 1)), (5, .int ((a2 12).getD l2_2.toNatClampNeg 0)), (4, .int ((a2 11).getD l2_2.toNatClampNeg 0)), (3, .int l3_2), (0, .ref 10), (1, .ref 73)], [.ref 10], (0, 0), ks i2 a2 q2 r2) (by rfl) ?_
            refine ko_callI mi_k21.1 (pc := 194) (ls := [(2, .int (l2_2 + 1)), (5, .int ((a2 12).getD l2_2.toNatClampNeg 0)), (4, .int ((a2 11).getD l2_2.toNatClampNeg 0)), (3, .int l3_2), (0, .ref 10), (1, .ref 73)]) (st := [.ref 10]) (h := ks i2 a2 q2 r2) (i := (.invokevirtual 36, 3, 20, 0, 9, 0, 226)) (mi_k21.2 _ _ (by rfl)) (ft_invS mi_pq20 (by rfl)) (cy := mi_c20) mi_pq20 rfl (kc20_10 hL2.I hL2.R ) (by decide) ?_
            intro vg48 ig48 ag48 qg48 rg48 kg48 hg48
            have hGg48 := kG_call hL2 kg48 (by decide +kernel)
            first | refine ft_go mi_k21 4 203 [(6, .int vg48), (2, .int (l2_2 + 1)), (5, .int ((a2 12).getD l2_2.toNatClampNeg 0)), (4, .int ((a2 11).getD l2_2.toNatClampNeg 0)), (3, .int l3_2), (0, .ref 10), (1, .ref 73)] [.ref 10, .int ((a2 11).getD l2_2.toNatClampNeg 0), .ref 10] ig48 ag48 qg48 rg48 (by rfl) ?_ | refine ko_steps mi_in21 4 _ (203, [(6, .int vg48), (2, .int (l2_2 + 1)), (5, .int ((a2 12).getD l2_2.toNatClampNeg 0)), (4, .int ((a2 11).getD l2_2.toNatClampNeg 0)), (3, .int l3_2), (0, .ref 10), (1, .ref 73)], [.ref 10, .int ((a2 11).getD l2_2.toNatClampNeg 0), .ref 10], (0, 0), ks ig48 ag48 qg48 rg48) (by rfl) ?_
            refine ko_callI mi_k21.1 (pc := 203) (ls := [(6, .int vg48), (2, .int (l2_2 + 1)), (5, .int ((a2 12).getD l2_2.toNatClampNeg 0)), (4, .int ((a2 11).getD l2_2.toNatClampNeg 0)), (3, .int l3_2), (0, .ref 10), (1, .ref 73)]) (st := [.ref 10, .int ((a2 11).getD l2_2.toNatClampNeg 0), .ref 10]) (h := ks ig48 ag48 qg48 rg48) (i := (.invokevirtual 36, 3, 20, 0, 9, 0, 226)) (mi_k21.2 _ _ (by rfl)) (ft_invS mi_pq20 (by rfl)) (cy := mi_c20) mi_pq20 rfl (kc20_10 hGg48.I hGg48.R ) (by decide) ?_
            intro vg49 ig49 ag49 qg49 rg49 kg49 hg49
            have hGg49 := kG_call hGg48 kg49 (by decide +kernel)
            first | refine ft_go mi_k21 1 208 [(6, .int vg48), (2, .int (l2_2 + 1)), (5, .int ((a2 12).getD l2_2.toNatClampNeg 0)), (4, .int ((a2 11).getD l2_2.toNatClampNeg 0)), (3, .int l3_2), (0, .ref 10), (1, .ref 73)] [.int vg48, .int vg49, .int ((a2 11).getD l2_2.toNatClampNeg 0), .ref 10] ig49 ag49 qg49 rg49 (by rfl) ?_ | refine ko_steps mi_in21 1 _ (208, [(6, .int vg48), (2, .int (l2_2 + 1)), (5, .int ((a2 12).getD l2_2.toNatClampNeg 0)), (4, .int ((a2 11).getD l2_2.toNatClampNeg 0)), (3, .int l3_2), (0, .ref 10), (1, .ref 73)], [.int vg48, .int vg49, .int ((a2 11).getD l2_2.toNatClampNeg 0), .ref 10], (0, 0), ks ig49 ag49 qg49 rg49) (by rfl) ?_
            refine ko_callPI mi_k21.1 (pc := 208) (ls := [(6, .int vg48), (2, .int (l2_2 + 1)), (5, .int ((a2 12).getD l2_2.toNatClampNeg 0)), (4, .int ((a2 11).getD l2_2.toNatClampNeg 0)), (3, .int l3_2), (0, .ref 10), (1, .ref 73)]) (st := [.int vg48, .int vg49, .int ((a2 11).getD l2_2.toNatClampNeg 0), .ref 10]) (h := ks ig49 ag49 qg49 rg49) (i := (.invokestatic 40, 3, 22, 0, 9, 0, 227)) (mi_k21.2 _ _ (by rfl)) (ft_invS mi_pq22 (by rfl)) (cy := mi_c22) mi_pq22 rfl (kc22 hGg49.I hGg49.R ((a2 11).getD l2_2.toNatClampNeg 0) vg49 vg48) (by decide) ?_
            intro vg50 hg50
            refine ko_callN mi_k21.1 (pc := 211) (ls := [(6, .int vg48), (2, .int (l2_2 + 1)), (5, .int ((a2 12).getD l2_2.toNatClampNeg 0)), (4, .int ((a2 11).getD l2_2.toNatClampNeg 0)), (3, .int l3_2), (0, .ref 10), (1, .ref 73)]) (st := [.int vg50, .ref 10]) (h := ks ig49 ag49 qg49 rg49) (i := (.invokevirtual 32, 3, 19, 0, 9, 0, 225)) (mi_k21.2 _ _ (by rfl)) (ft_invS mi_pq19 (by rfl)) (cy := mi_c19) mi_pq19 rfl (kc19_10 hGg49.I hGg49.R vg50) (by decide) ?_
            intro ig51 ag51 qg51 rg51 kg51 hg51
            have hGg51 := kG_call hGg49 kg51 (by decide +kernel)
            have s52 : (l3_2 + 1).toInt = l3_2.toInt + (1 : Int32).toInt := kd_add (oz12 p2_0 kn1) (oz1036 c5 kn121 kn1)
            first | refine ft_go mi_k21 2 9 [(3, .int (l3_2 + 1)), (6, .int vg48), (2, .int (l2_2 + 1)), (5, .int ((a2 12).getD l2_2.toNatClampNeg 0)), (4, .int ((a2 11).getD l2_2.toNatClampNeg 0)), (0, .ref 10), (1, .ref 73)] [] ig51 ag51 qg51 rg51 (by rfl) ?_ | refine ko_steps mi_in21 2 _ (9, [(3, .int (l3_2 + 1)), (6, .int vg48), (2, .int (l2_2 + 1)), (5, .int ((a2 12).getD l2_2.toNatClampNeg 0)), (4, .int ((a2 11).getD l2_2.toNatClampNeg 0)), (0, .ref 10), (1, .ref 73)], [], (0, 0), ks ig51 ag51 qg51 rg51) (by rfl) ?_
            refine ko_perm [(3, .int (l3_2 + 1)), (2, .int (l2_2 + 1)), (0, .ref 10), (1, .ref 73)] (List.forall_mem_cons.mpr ⟨(List.Mem.head _), (List.forall_mem_cons.mpr ⟨(List.Mem.tail _ (List.Mem.tail _ (List.Mem.head _))), (List.forall_mem_cons.mpr ⟨(List.Mem.tail _ (List.Mem.tail _ (List.Mem.tail _ (List.Mem.tail _ (List.Mem.tail _ (List.Mem.head _)))))), (List.forall_mem_cons.mpr ⟨(List.Mem.tail _ (List.Mem.tail _ (List.Mem.tail _ (List.Mem.tail _ (List.Mem.tail _ (List.Mem.tail _ (List.Mem.head _))))))), (fun _ h => absurd h List.not_mem_nil)⟩)⟩)⟩)⟩) ?_
            exact ih2 _ _ _ _ _ _ hGg51 (oz14 p2_0 s52 kn1) (kj_meas (oz1037 s52 kn1) (oz1038 c5 kn121) hm2)
  exact lp2 _ _ _ _ _ _ _ (kG_self _ hJ1.I hJ1.R) (oz46 kn0) (Nat.lt_succ_self _)
def w19_100 : kW := ([6405], [103], [], [])
set_option maxRecDepth 100000 in
theorem kc19_100 {i : Nat → Int32} {a : Nat → List Int32} {q : Nat → List Int64} {r : Nat → Nat} (hI : kI i a q) (hr : kr r) (x1 : Int32) : km 1 19 [.ref 100, .int x1] (ks i a q r) (kVN w19_100 i a q r (fun i1 a1 q1 r1 => True)) := by
  have hG := kG_self w19_100 hI hr
  refine km_ofN (q := (mi_h19, mi_c19)) rfl (by decide) (Nat.le_of_ble_eq_true rfl) ?_
  intro P hP
  have fi_6405 : ((0 : Int) ≤ (i 6405).toInt) ∧ ((i 6405).toInt ≤ 121) := hG.I.1 6405
  refine ft_go mi_k19 3 6 [(0, .ref 100), (1, .int x1)] [.int 121, .int (i 6405)] i a q r (by rfl) ?_
  refine ft_if mi_k19 (decide (121 ≤ (i 6405))) 29 9 [(0, .ref 100), (1, .int x1)] [] (by rfl) (fun c => ?_) (fun c => ?_)
  ·
    have c1 : (121 : Int32).toInt ≤ (i 6405).toInt := kd_le c; clear c
    exact ft_ret mi_k19 (by rfl) (hP  _ _ _ _ hG trivial)
  ·
    have c2 : (i 6405).toInt < (121 : Int32).toInt := kd_leF c; clear c
    refine ft_go mi_k19 5 18 [(0, .ref 100), (1, .int x1)] [.int x1, .int (i 6405), .ref 103] i a q r (by rfl) ?_
    refine ko_iast3 mi_k19.1 (n := 121) (c := 121) (ax := (0, 0, 0, 0, 0)) (mi_k19.2 _ _ (by rfl)) (by rfl) (ksG103 _ _ _ _) (ksA103 _ _ _ _) (hG.I.2.1 103) rfl (oz3 fi_6405.1) (oz912 c2 kn121) ?_
    intro a3 ea3 fa3
    have hJ3 := kG_a3 hG 103 rfl ea3 fa3 (kd_bd _)
    have s4 : ((i 6405) + 1).toInt = (i 6405).toInt + (1 : Int32).toInt := kd_add (oz12 fi_6405.1 kn1) (oz913 fi_6405.2 kn1)
    have hJ5 := kG_i hJ3 6405 rfl (v := ((i 6405) + 1)) ⟨(oz14 fi_6405.1 s4 kn1), (oz914 c2 s4 kn121 kn1)⟩
    refine ft_go mi_k19 6 29 [(0, .ref 100), (1, .int x1)] [] (ku i 6405 ((i 6405) + 1)) a3 q r (by rfl) ?_
    exact ft_ret mi_k19 (by rfl) (hP  _ _ _ _ hJ5 trivial)
def w20_100 : kW := ([6405], [], [], [])
set_option maxRecDepth 100000 in
theorem kc20_100 {i : Nat → Int32} {a : Nat → List Int32} {q : Nat → List Int64} {r : Nat → Nat} (hI : kI i a q) (hr : kr r)  : km 1 20 [.ref 100] (ks i a q r) (kVI w20_100 i a q r (fun v i1 a1 q1 r1 => True)) := by
  have hG := kG_self w20_100 hI hr
  refine km_ofI (q := (mi_h20, mi_c20)) rfl (by decide) (Nat.le_of_ble_eq_true rfl) ?_
  intro P hP
  have fi_6405 : ((0 : Int) ≤ (i 6405).toInt) ∧ ((i 6405).toInt ≤ 121) := hG.I.1 6405
  refine ft_go mi_k20 2 4 [(0, .ref 100)] [.int (i 6405)] i a q r (by rfl) ?_
  refine ft_if mi_k20 (decide (0 < (i 6405))) 9 7 [(0, .ref 100)] [] (by rfl) (fun c => ?_) (fun c => ?_)
  ·
    have c1 : (0 : Int32).toInt < (i 6405).toInt := kd_lt c; clear c
    have s2 : ((i 6405) - 1).toInt = (i 6405).toInt - (1 : Int32).toInt := kd_sub (oz1040 c1 kn0 kn1) (oz911 fi_6405.2 kn1)
    have hJ3 := kG_i hG 6405 rfl (v := ((i 6405) - 1)) ⟨(oz1041 c1 s2 kn0 kn1), (oz1042 fi_6405.2 s2 kn1)⟩
    refine ft_go mi_k20 10 27 [(0, .ref 100)] [.int ((i 6405) - 1), .ref 103] (ku i 6405 ((i 6405) - 1)) a q r (by rfl) ?_
    refine ko_iald3 mi_k20.1 (n := 121) (c := 121) (ax := (0, 0, 0, 0, 0)) (mi_k20.2 _ _ (by rfl)) (by rfl) (ksG103 _ _ _ _) (hJ3.I.2.1 103) rfl (oz1041 c1 s2 kn0 kn1) (oz1043 fi_6405.2 s2 kn1) ?_
    exact ft_ret mi_k20 (by rfl) (hP ((a 103).getD ((i 6405) - 1).toNatClampNeg 0) _ _ _ _ hJ3 trivial)
  ·
    have c4 : (i 6405).toInt ≤ (0 : Int32).toInt := kd_ltF c; clear c
    refine ft_go mi_k20 1 8 [(0, .ref 100)] [.int 0] i a q r (by rfl) ?_
    exact ft_ret mi_k20 (by rfl) (hP 0 _ _ _ _ hG trivial)
def w21_100_73 : kW := ([6405], [103], [], [])
def w21_100_73_L9 : kW := ([6405], [103], [], [])
set_option maxRecDepth 100000 in
theorem kc21_100_73 {i : Nat → Int32} {a : Nat → List Int32} {q : Nat → List Int64} {r : Nat → Nat} (hI : kI i a q) (hr : kr r)  : km 3 21 [.ref 100, .ref 73] (ks i a q r) (kVI w21_100_73 i a q r (fun v i1 a1 q1 r1 => True)) := by
  have hG := kG_self w21_100_73 hI hr
  refine km_ofI (q := (mi_h21, mi_c21)) rfl (by decide) (Nat.le_of_ble_eq_true rfl) ?_
  intro P hP
  have hJ1 := kG_i hG 6405 rfl (v := 0) ⟨(oz46 kn0), (oz1033 kn0)⟩
  first | refine ft_go mi_k21 7 9 [(3, .int 0), (2, .int 0), (0, .ref 100), (1, .ref 73)] [] (ku i 6405 0) a q r (by rfl) ?_ | refine ko_steps mi_in21 7 _ (9, [(3, .int 0), (2, .int 0), (0, .ref 100), (1, .ref 73)], [], (0, 0), ks (ku i 6405 0) a q r) (by rfl) ?_
  have lp2 : ∀ (nz : Nat) (i2 : Nat → Int32) (a2 : Nat → List Int32) (q2 : Nat → List Int64) (r2 : Nat → Nat) (l3_2 : Int32) (l2_2 : Int32), kG w21_100_73_L9 (ku i 6405 0) a q r i2 a2 q2 r2 → (0 : Int) ≤ l3_2.toInt → ((121 - l3_2.toInt)).toNat < nz → ko 3 (mi_h21, mi_c21) P (9, [(3, .int l3_2), (2, .int l2_2), (0, .ref 100), (1, .ref 73)], [], (0, 0), ks i2 a2 q2 r2) := by
    intro nz
    induction nz with
    | zero =>
      intro _ _ _ _ _ _ _ _ hm
      exact absurd hm (Nat.not_lt_zero _)
    | succ nz ih2 =>
      intro i2 a2 q2 r2 l3_2 l2_2 hL2 p2_0 hm2
      first | refine ft_go mi_k21 2 12 [(3, .int l3_2), (2, .int l2_2), (0, .ref 100), (1, .ref 73)] [.int 121, .int l3_2] i2 a2 q2 r2 (by rfl) ?_ | refine ko_steps mi_in21 2 _ (12, [(3, .int l3_2), (2, .int l2_2), (0, .ref 100), (1, .ref 73)], [.int 121, .int l3_2], (0, 0), ks i2 a2 q2 r2) (by rfl) ?_
      refine ft_if mi_k21 (decide (121 ≤ l3_2)) 220 15 [(3, .int l3_2), (2, .int l2_2), (0, .ref 100), (1, .ref 73)] [] (by rfl) (fun c => ?_) (fun c => ?_)
      ·
        have c3 : (121 : Int32).toInt ≤ l3_2.toInt := kd_le c; clear c
        have hG4 := kG_call hJ1 hL2 (by decide +kernel)
        first | refine ft_go mi_k21 1 221 [(3, .int l3_2), (2, .int l2_2), (0, .ref 100), (1, .ref 73)] [.int 0] i2 a2 q2 r2 (by rfl) ?_ | refine ko_steps mi_in21 1 _ (221, [(3, .int l3_2), (2, .int l2_2), (0, .ref 100), (1, .ref 73)], [.int 0], (0, 0), ks i2 a2 q2 r2) (by rfl) ?_
        exact ft_ret mi_k21 (by rfl) (hP 0 _ _ _ _ hG4 trivial)
      ·
        have c5 : l3_2.toInt < (121 : Int32).toInt := kd_leF c; clear c
        first | refine ft_go mi_k21 1 16 [(3, .int l3_2), (2, .int l2_2), (0, .ref 100), (1, .ref 73)] [.int l2_2] i2 a2 q2 r2 (by rfl) ?_ | refine ko_steps mi_in21 1 _ (16, [(3, .int l3_2), (2, .int l2_2), (0, .ref 100), (1, .ref 73)], [.int l2_2], (0, 0), ks i2 a2 q2 r2) (by rfl) ?_
        refine ft_if mi_k21 (decide (l2_2 < 0)) 220 19 [(3, .int l3_2), (2, .int l2_2), (0, .ref 100), (1, .ref 73)] [] (by rfl) (fun c => ?_) (fun c => ?_)
        ·
          have c6 : l2_2.toInt < (0 : Int32).toInt := kd_lt c; clear c
          have hG7 := kG_call hJ1 hL2 (by decide +kernel)
          first | refine ft_go mi_k21 1 221 [(3, .int l3_2), (2, .int l2_2), (0, .ref 100), (1, .ref 73)] [.int 0] i2 a2 q2 r2 (by rfl) ?_ | refine ko_steps mi_in21 1 _ (221, [(3, .int l3_2), (2, .int l2_2), (0, .ref 100), (1, .ref 73)], [.int 0], (0, 0), ks i2 a2 q2 r2) (by rfl) ?_
          exact ft_ret mi_k21 (by rfl) (hP 0 _ _ _ _ hG7 trivial)
        ·
          have c8 : (0 : Int32).toInt ≤ l2_2.toInt := kd_ltF c; clear c
          have fi2_6403 : ((0 : Int) ≤ (i2 6403).toInt) ∧ ((i2 6403).toInt ≤ 121) := hL2.I.1 6403
          first | refine ft_go mi_k21 3 24 [(3, .int l3_2), (2, .int l2_2), (0, .ref 100), (1, .ref 73)] [.int (i2 6403), .int l2_2] i2 a2 q2 r2 (by rfl) ?_ | refine ko_steps mi_in21 3 _ (24, [(3, .int l3_2), (2, .int l2_2), (0, .ref 100), (1, .ref 73)], [.int (i2 6403), .int l2_2], (0, 0), ks i2 a2 q2 r2) (by rfl) ?_
          refine ft_if mi_k21 (decide ((i2 6403) ≤ l2_2)) 220 27 [(3, .int l3_2), (2, .int l2_2), (0, .ref 100), (1, .ref 73)] [] (by rfl) (fun c => ?_) (fun c => ?_)
          ·
            have c9 : (i2 6403).toInt ≤ l2_2.toInt := kd_le c; clear c
            have hG10 := kG_call hJ1 hL2 (by decide +kernel)
            first | refine ft_go mi_k21 1 221 [(3, .int l3_2), (2, .int l2_2), (0, .ref 100), (1, .ref 73)] [.int 0] i2 a2 q2 r2 (by rfl) ?_ | refine ko_steps mi_in21 1 _ (221, [(3, .int l3_2), (2, .int l2_2), (0, .ref 100), (1, .ref 73)], [.int 0], (0, 0), ks i2 a2 q2 r2) (by rfl) ?_
            exact ft_ret mi_k21 (by rfl) (hP 0 _ _ _ _ hG10 trivial)
          ·
            have c11 : l2_2.toInt < (i2 6403).toInt := kd_leF c; clear c
            first | refine ft_go mi_k21 3 32 [(3, .int l3_2), (2, .int l2_2), (0, .ref 100), (1, .ref 73)] [.int l2_2, .ref 101] i2 a2 q2 r2 (by rfl) ?_ | refine ko_steps mi_in21 3 _ (32, [(3, .int l3_2), (2, .int l2_2), (0, .ref 100), (1, .ref 73)], [.int l2_2, .ref 101], (0, 0), ks i2 a2 q2 r2) (by rfl) ?_
            refine ko_iald3 mi_k21.1 (n := 121) (c := 121) (ax := (0, 0, 0, 0, 0)) (mi_k21.2 _ _ (by rfl)) (by rfl) (ksG101 _ _ _ _) (hL2.I.2.1 101) rfl (oz389 c8 kn0) (oz1034 c11 fi2_6403.2) ?_
            first | refine ft_go mi_k21 4 40 [(4, .int ((a2 101).getD l2_2.toNatClampNeg 0)), (3, .int l3_2), (2, .int l2_2), (0, .ref 100), (1, .ref 73)] [.int l2_2, .ref 102] i2 a2 q2 r2 (by rfl) ?_ | refine ko_steps mi_in21 4 _ (40, [(4, .int ((a2 101).getD l2_2.toNatClampNeg 0)), (3, .int l3_2), (2, .int l2_2), (0, .ref 100), (1, .ref 73)], [.int l2_2, .ref 102], (0, 0), ks i2 a2 q2 r2) (by rfl) ?_
            refine ko_iald3 mi_k21.1 (n := 121) (c := 121) (ax := (0, 0, 0, 0, 0)) (mi_k21.2 _ _ (by rfl)) (by rfl) (ksG102 _ _ _ _) (hL2.I.2.1 102) rfl (oz389 c8 kn0) (oz1034 c11 fi2_6403.2) ?_
            have s12 : (l2_2 + 1).toInt = l2_2.toInt + (1 : Int32).toInt := kd_add (oz950 c8 kn0 kn1) (oz1035 c11 fi2_6403.2 kn1)
            first | refine ft_go mi_k21 3 48 [(2, .int (l2_2 + 1)), (5, .int ((a2 102).getD l2_2.toNatClampNeg 0)), (4, .int ((a2 101).getD l2_2.toNatClampNeg 0)), (3, .int l3_2), (0, .ref 100), (1, .ref 73)] [.int ((a2 101).getD l2_2.toNatClampNeg 0)] i2 a2 q2 r2 (by rfl) ?_ | refine ko_steps mi_in21 3 _ (48, [(2, .int (l2_2 + 1)), (5, .int ((a2 102).getD l2_2.toNatClampNeg 0)), (4, .int ((a2 101).getD l2_2.toNatClampNeg 0)), (3, .int l3_2), (0, .ref 100), (1, .ref 73)], [.int ((a2 101).getD l2_2.toNatClampNeg 0)], (0, 0), ks i2 a2 q2 r2) (by rfl) ?_
            by_cases w13 : ((a2 101).getD l2_2.toNatClampNeg 0).toInt = 0
            ·
              refine ft_swx mi_k21 (pc := 48) (v := 0) (t := 108) (kj_eq w13 (by decide) : ((a2 101).getD l2_2.toNatClampNeg 0) = 0) (by decide +kernel) ?_
              first | refine ft_go mi_k21 2 111 [(2, .int (l2_2 + 1)), (5, .int ((a2 102).getD l2_2.toNatClampNeg 0)), (4, .int ((a2 101).getD l2_2.toNatClampNeg 0)), (3, .int l3_2), (0, .ref 100), (1, .ref 73)] [.int ((a2 102).getD l2_2.toNatClampNeg 0), .ref 100] i2 a2 q2 r2 (by rfl) ?_ | refine ko_steps mi_in21 2 _ (111, [(2, .int (l2_2 + 1)), (5, .int ((a2 102).getD l2_2.toNatClampNeg 0)), (4, .int ((a2 101).getD l2_2.toNatClampNeg 0)), (3, .int l3_2), (0, .ref 100), (1, .ref 73)], [.int ((a2 102).getD l2_2.toNatClampNeg 0), .ref 100], (0, 0), ks i2 a2 q2 r2) (by rfl) ?_
              refine ko_callN mi_k21.1 (pc := 111) (ls := [(2, .int (l2_2 + 1)), (5, .int ((a2 102).getD l2_2.toNatClampNeg 0)), (4, .int ((a2 101).getD l2_2.toNatClampNeg 0)), (3, .int l3_2), (0, .ref 100), (1, .ref 73)]) (st := [.int ((a2 102).getD l2_2.toNatClampNeg 0), .ref 100]) (h := ks i2 a2 q2 r2) (i := (.invokevirtual 32, 3, 19, 0, 9, 0, 225)) (mi_k21.2 _ _ (by rfl)) (ft_invS mi_pq19 (by rfl)) (cy := mi_c19) mi_pq19 rfl (kc19_100 hL2.I hL2.R ((a2 102).getD l2_2.toNatClampNeg 0)) (by decide) ?_
              intro ig14 ag14 qg14 rg14 kg14 hg14
              have hGg14 := kG_call hL2 kg14 (by decide +kernel)
              have s15 : (l3_2 + 1).toInt = l3_2.toInt + (1 : Int32).toInt := kd_add (oz12 p2_0 kn1) (oz1036 c5 kn121 kn1)
              first | refine ft_go mi_k21 3 9 [(3, .int (l3_2 + 1)), (2, .int (l2_2 + 1)), (5, .int ((a2 102).getD l2_2.toNatClampNeg 0)), (4, .int ((a2 101).getD l2_2.toNatClampNeg 0)), (0, .ref 100), (1, .ref 73)] [] ig14 ag14 qg14 rg14 (by rfl) ?_ | refine ko_steps mi_in21 3 _ (9, [(3, .int (l3_2 + 1)), (2, .int (l2_2 + 1)), (5, .int ((a2 102).getD l2_2.toNatClampNeg 0)), (4, .int ((a2 101).getD l2_2.toNatClampNeg 0)), (0, .ref 100), (1, .ref 73)], [], (0, 0), ks ig14 ag14 qg14 rg14) (by rfl) ?_
              refine ko_perm [(3, .int (l3_2 + 1)), (2, .int (l2_2 + 1)), (0, .ref 100), (1, .ref 73)] (List.forall_mem_cons.mpr ⟨(List.Mem.head _), (List.forall_mem_cons.mpr ⟨(List.Mem.tail _ (List.Mem.head _)), (List.forall_mem_cons.mpr ⟨(List.Mem.tail _ (List.Mem.tail _ (List.Mem.tail _ (List.Mem.tail _ (List.Mem.head _))))), (List.forall_mem_cons.mpr ⟨(List.Mem.tail _ (List.Mem.tail _ (List.Mem.tail _ (List.Mem.tail _ (List.Mem.tail _ (List.Mem.head _)))))), (fun _ h => absurd h List.not_mem_nil)⟩)⟩)⟩)⟩) ?_
              exact ih2 _ _ _ _ _ _ hGg14 (oz14 p2_0 s15 kn1) (kj_meas (oz1037 s15 kn1) (oz1038 c5 kn121) hm2)
            by_cases w16 : ((a2 101).getD l2_2.toNatClampNeg 0).toInt = 1
            ·
              refine ft_swx mi_k21 (pc := 48) (v := 1) (t := 117) (kj_eq w16 (by decide) : ((a2 101).getD l2_2.toNatClampNeg 0) = 1) (by decide +kernel) ?_
              first | refine ft_go mi_k21 2 120 [(2, .int (l2_2 + 1)), (5, .int ((a2 102).getD l2_2.toNatClampNeg 0)), (4, .int ((a2 101).getD l2_2.toNatClampNeg 0)), (3, .int l3_2), (0, .ref 100), (1, .ref 73)] [.int ((a2 102).getD l2_2.toNatClampNeg 0), .ref 100] i2 a2 q2 r2 (by rfl) ?_ | refine ko_steps mi_in21 2 _ (120, [(2, .int (l2_2 + 1)), (5, .int ((a2 102).getD l2_2.toNatClampNeg 0)), (4, .int ((a2 101).getD l2_2.toNatClampNeg 0)), (3, .int l3_2), (0, .ref 100), (1, .ref 73)], [.int ((a2 102).getD l2_2.toNatClampNeg 0), .ref 100], (0, 0), ks i2 a2 q2 r2) (by rfl) ?_
              refine ft_if mi_k21 (decide (((a2 102).getD l2_2.toNatClampNeg 0) < 0)) 137 123 [(2, .int (l2_2 + 1)), (5, .int ((a2 102).getD l2_2.toNatClampNeg 0)), (4, .int ((a2 101).getD l2_2.toNatClampNeg 0)), (3, .int l3_2), (0, .ref 100), (1, .ref 73)] [.ref 100] (by rfl) (fun c => ?_) (fun c => ?_)
              ·
                have c17 : ((a2 102).getD l2_2.toNatClampNeg 0).toInt < (0 : Int32).toInt := kd_lt c; clear c
                first | refine ft_go mi_k21 1 138 [(2, .int (l2_2 + 1)), (5, .int ((a2 102).getD l2_2.toNatClampNeg 0)), (4, .int ((a2 101).getD l2_2.toNatClampNeg 0)), (3, .int l3_2), (0, .ref 100), (1, .ref 73)] [.int 0, .ref 100] i2 a2 q2 r2 (by rfl) ?_ | refine ko_steps mi_in21 1 _ (138, [(2, .int (l2_2 + 1)), (5, .int ((a2 102).getD l2_2.toNatClampNeg 0)), (4, .int ((a2 101).getD l2_2.toNatClampNeg 0)), (3, .int l3_2), (0, .ref 100), (1, .ref 73)], [.int 0, .ref 100], (0, 0), ks i2 a2 q2 r2) (by rfl) ?_
                refine ko_callN mi_k21.1 (pc := 138) (ls := [(2, .int (l2_2 + 1)), (5, .int ((a2 102).getD l2_2.toNatClampNeg 0)), (4, .int ((a2 101).getD l2_2.toNatClampNeg 0)), (3, .int l3_2), (0, .ref 100), (1, .ref 73)]) (st := [.int 0, .ref 100]) (h := ks i2 a2 q2 r2) (i := (.invokevirtual 32, 3, 19, 0, 9, 0, 225)) (mi_k21.2 _ _ (by rfl)) (ft_invS mi_pq19 (by rfl)) (cy := mi_c19) mi_pq19 rfl (kc19_100 hL2.I hL2.R 0) (by decide) ?_
                intro ig18 ag18 qg18 rg18 kg18 hg18
                have hGg18 := kG_call hL2 kg18 (by decide +kernel)
                have s19 : (l3_2 + 1).toInt = l3_2.toInt + (1 : Int32).toInt := kd_add (oz12 p2_0 kn1) (oz1036 c5 kn121 kn1)
                first | refine ft_go mi_k21 3 9 [(3, .int (l3_2 + 1)), (2, .int (l2_2 + 1)), (5, .int ((a2 102).getD l2_2.toNatClampNeg 0)), (4, .int ((a2 101).getD l2_2.toNatClampNeg 0)), (0, .ref 100), (1, .ref 73)] [] ig18 ag18 qg18 rg18 (by rfl) ?_ | refine ko_steps mi_in21 3 _ (9, [(3, .int (l3_2 + 1)), (2, .int (l2_2 + 1)), (5, .int ((a2 102).getD l2_2.toNatClampNeg 0)), (4, .int ((a2 101).getD l2_2.toNatClampNeg 0)), (0, .ref 100), (1, .ref 73)], [], (0, 0), ks ig18 ag18 qg18 rg18) (by rfl) ?_
                refine ko_perm [(3, .int (l3_2 + 1)), (2, .int (l2_2 + 1)), (0, .ref 100), (1, .ref 73)] (List.forall_mem_cons.mpr ⟨(List.Mem.head _), (List.forall_mem_cons.mpr ⟨(List.Mem.tail _ (List.Mem.head _)), (List.forall_mem_cons.mpr ⟨(List.Mem.tail _ (List.Mem.tail _ (List.Mem.tail _ (List.Mem.tail _ (List.Mem.head _))))), (List.forall_mem_cons.mpr ⟨(List.Mem.tail _ (List.Mem.tail _ (List.Mem.tail _ (List.Mem.tail _ (List.Mem.tail _ (List.Mem.head _)))))), (fun _ h => absurd h List.not_mem_nil)⟩)⟩)⟩)⟩) ?_
                exact ih2 _ _ _ _ _ _ hGg18 (oz14 p2_0 s19 kn1) (kj_meas (oz1037 s19 kn1) (oz1038 c5 kn121) hm2)
              ·
                have c20 : (0 : Int32).toInt ≤ ((a2 102).getD l2_2.toNatClampNeg 0).toInt := kd_ltF c; clear c
                first | refine ft_go mi_k21 2 126 [(2, .int (l2_2 + 1)), (5, .int ((a2 102).getD l2_2.toNatClampNeg 0)), (4, .int ((a2 101).getD l2_2.toNatClampNeg 0)), (3, .int l3_2), (0, .ref 100), (1, .ref 73)] [.ref 73, .int ((a2 102).getD l2_2.toNatClampNeg 0), .ref 100] i2 a2 q2 r2 (by rfl) ?_ | refine ko_steps mi_in21 2 _ (126, [(2, .int (l2_2 + 1)), (5, .int ((a2 102).getD l2_2.toNatClampNeg 0)), (4, .int ((a2 101).getD l2_2.toNatClampNeg 0)), (3, .int l3_2), (0, .ref 100), (1, .ref 73)], [.ref 73, .int ((a2 102).getD l2_2.toNatClampNeg 0), .ref 100], (0, 0), ks i2 a2 q2 r2) (by rfl) ?_
                refine ko_alen mi_k21.1 (l := a2 73) (ax := (0, 0, 0, 0, 0)) (x := 6) (mi_k21.2 _ _ (by rfl)) (by rfl) (by rfl) (by rw [(hL2.I.2.1 73 : (a2 73).length = _)]; rfl) ?_
                refine ft_if mi_k21 (decide (6 ≤ ((a2 102).getD l2_2.toNatClampNeg 0))) 137 130 [(2, .int (l2_2 + 1)), (5, .int ((a2 102).getD l2_2.toNatClampNeg 0)), (4, .int ((a2 101).getD l2_2.toNatClampNeg 0)), (3, .int l3_2), (0, .ref 100), (1, .ref 73)] [.ref 100] (by rfl) (fun c => ?_) (fun c => ?_)
                ·
                  have c21 : (6 : Int32).toInt ≤ ((a2 102).getD l2_2.toNatClampNeg 0).toInt := kd_le c; clear c
                  first | refine ft_go mi_k21 1 138 [(2, .int (l2_2 + 1)), (5, .int ((a2 102).getD l2_2.toNatClampNeg 0)), (4, .int ((a2 101).getD l2_2.toNatClampNeg 0)), (3, .int l3_2), (0, .ref 100), (1, .ref 73)] [.int 0, .ref 100] i2 a2 q2 r2 (by rfl) ?_ | refine ko_steps mi_in21 1 _ (138, [(2, .int (l2_2 + 1)), (5, .int ((a2 102).getD l2_2.toNatClampNeg 0)), (4, .int ((a2 101).getD l2_2.toNatClampNeg 0)), (3, .int l3_2), (0, .ref 100), (1, .ref 73)], [.int 0, .ref 100], (0, 0), ks i2 a2 q2 r2) (by rfl) ?_
                  refine ko_callN mi_k21.1 (pc := 138) (ls := [(2, .int (l2_2 + 1)), (5, .int ((a2 102).getD l2_2.toNatClampNeg 0)), (4, .int ((a2 101).getD l2_2.toNatClampNeg 0)), (3, .int l3_2), (0, .ref 100), (1, .ref 73)]) (st := [.int 0, .ref 100]) (h := ks i2 a2 q2 r2) (i := (.invokevirtual 32, 3, 19, 0, 9, 0, 225)) (mi_k21.2 _ _ (by rfl)) (ft_invS mi_pq19 (by rfl)) (cy := mi_c19) mi_pq19 rfl (kc19_100 hL2.I hL2.R 0) (by decide) ?_
                  intro ig22 ag22 qg22 rg22 kg22 hg22
                  have hGg22 := kG_call hL2 kg22 (by decide +kernel)
                  have s23 : (l3_2 + 1).toInt = l3_2.toInt + (1 : Int32).toInt := kd_add (oz12 p2_0 kn1) (oz1036 c5 kn121 kn1)
                  first | refine ft_go mi_k21 3 9 [(3, .int (l3_2 + 1)), (2, .int (l2_2 + 1)), (5, .int ((a2 102).getD l2_2.toNatClampNeg 0)), (4, .int ((a2 101).getD l2_2.toNatClampNeg 0)), (0, .ref 100), (1, .ref 73)] [] ig22 ag22 qg22 rg22 (by rfl) ?_ | refine ko_steps mi_in21 3 _ (9, [(3, .int (l3_2 + 1)), (2, .int (l2_2 + 1)), (5, .int ((a2 102).getD l2_2.toNatClampNeg 0)), (4, .int ((a2 101).getD l2_2.toNatClampNeg 0)), (0, .ref 100), (1, .ref 73)], [], (0, 0), ks ig22 ag22 qg22 rg22) (by rfl) ?_
                  refine ko_perm [(3, .int (l3_2 + 1)), (2, .int (l2_2 + 1)), (0, .ref 100), (1, .ref 73)] (List.forall_mem_cons.mpr ⟨(List.Mem.head _), (List.forall_mem_cons.mpr ⟨(List.Mem.tail _ (List.Mem.head _)), (List.forall_mem_cons.mpr ⟨(List.Mem.tail _ (List.Mem.tail _ (List.Mem.tail _ (List.Mem.tail _ (List.Mem.head _))))), (List.forall_mem_cons.mpr ⟨(List.Mem.tail _ (List.Mem.tail _ (List.Mem.tail _ (List.Mem.tail _ (List.Mem.tail _ (List.Mem.head _)))))), (fun _ h => absurd h List.not_mem_nil)⟩)⟩)⟩)⟩) ?_
                  exact ih2 _ _ _ _ _ _ hGg22 (oz14 p2_0 s23 kn1) (kj_meas (oz1037 s23 kn1) (oz1038 c5 kn121) hm2)
                ·
                  have c24 : ((a2 102).getD l2_2.toNatClampNeg 0).toInt < (6 : Int32).toInt := kd_leF c; clear c
                  first | refine ft_go mi_k21 2 133 [(2, .int (l2_2 + 1)), (5, .int ((a2 102).getD l2_2.toNatClampNeg 0)), (4, .int ((a2 101).getD l2_2.toNatClampNeg 0)), (3, .int l3_2), (0, .ref 100), (1, .ref 73)] [.int ((a2 102).getD l2_2.toNatClampNeg 0), .ref 73, .ref 100] i2 a2 q2 r2 (by rfl) ?_ | refine ko_steps mi_in21 2 _ (133, [(2, .int (l2_2 + 1)), (5, .int ((a2 102).getD l2_2.toNatClampNeg 0)), (4, .int ((a2 101).getD l2_2.toNatClampNeg 0)), (3, .int l3_2), (0, .ref 100), (1, .ref 73)], [.int ((a2 102).getD l2_2.toNatClampNeg 0), .ref 73, .ref 100], (0, 0), ks i2 a2 q2 r2) (by rfl) ?_
                  refine ko_iald3 mi_k21.1 (n := 6) (c := 6) (ax := (0, 0, 0, 0, 0)) (mi_k21.2 _ _ (by rfl)) (by rfl) (ksG73 _ _ _ _) (hL2.I.2.1 73) rfl (oz389 c20 kn0) (oz1039 c24 kn6) ?_
                  first | refine ft_go mi_k21 1 138 [(2, .int (l2_2 + 1)), (5, .int ((a2 102).getD l2_2.toNatClampNeg 0)), (4, .int ((a2 101).getD l2_2.toNatClampNeg 0)), (3, .int l3_2), (0, .ref 100), (1, .ref 73)] [.int ((a2 73).getD ((a2 102).getD l2_2.toNatClampNeg 0).toNatClampNeg 0), .ref 100] i2 a2 q2 r2 (by rfl) ?_ | refine ko_steps mi_in21 1 _ (138, [(2, .int (l2_2 + 1)), (5, .int ((a2 102).getD l2_2.toNatClampNeg 0)), (4, .int ((a2 101).getD l2_2.toNatClampNeg 0)), (3, .int l3_2), (0, .ref 100), (1, .ref 73)], [.int ((a2 73).getD ((a2 102).getD l2_2.toNatClampNeg 0).toNatClampNeg 0), .ref 100], (0, 0), ks i2 a2 q2 r2) (by rfl) ?_
                  refine ko_callN mi_k21.1 (pc := 138) (ls := [(2, .int (l2_2 + 1)), (5, .int ((a2 102).getD l2_2.toNatClampNeg 0)), (4, .int ((a2 101).getD l2_2.toNatClampNeg 0)), (3, .int l3_2), (0, .ref 100), (1, .ref 73)]) (st := [.int ((a2 73).getD ((a2 102).getD l2_2.toNatClampNeg 0).toNatClampNeg 0), .ref 100]) (h := ks i2 a2 q2 r2) (i := (.invokevirtual 32, 3, 19, 0, 9, 0, 225)) (mi_k21.2 _ _ (by rfl)) (ft_invS mi_pq19 (by rfl)) (cy := mi_c19) mi_pq19 rfl (kc19_100 hL2.I hL2.R ((a2 73).getD ((a2 102).getD l2_2.toNatClampNeg 0).toNatClampNeg 0)) (by decide) ?_
                  intro ig25 ag25 qg25 rg25 kg25 hg25
                  have hGg25 := kG_call hL2 kg25 (by decide +kernel)
                  have s26 : (l3_2 + 1).toInt = l3_2.toInt + (1 : Int32).toInt := kd_add (oz12 p2_0 kn1) (oz1036 c5 kn121 kn1)
                  first | refine ft_go mi_k21 3 9 [(3, .int (l3_2 + 1)), (2, .int (l2_2 + 1)), (5, .int ((a2 102).getD l2_2.toNatClampNeg 0)), (4, .int ((a2 101).getD l2_2.toNatClampNeg 0)), (0, .ref 100), (1, .ref 73)] [] ig25 ag25 qg25 rg25 (by rfl) ?_ | refine ko_steps mi_in21 3 _ (9, [(3, .int (l3_2 + 1)), (2, .int (l2_2 + 1)), (5, .int ((a2 102).getD l2_2.toNatClampNeg 0)), (4, .int ((a2 101).getD l2_2.toNatClampNeg 0)), (0, .ref 100), (1, .ref 73)], [], (0, 0), ks ig25 ag25 qg25 rg25) (by rfl) ?_
                  refine ko_perm [(3, .int (l3_2 + 1)), (2, .int (l2_2 + 1)), (0, .ref 100), (1, .ref 73)] (List.forall_mem_cons.mpr ⟨(List.Mem.head _), (List.forall_mem_cons.mpr ⟨(List.Mem.tail _ (List.Mem.head _)), (List.forall_mem_cons.mpr ⟨(List.Mem.tail _ (List.Mem.tail _ (List.Mem.tail _ (List.Mem.tail _ (List.Mem.head _))))), (List.forall_mem_cons.mpr ⟨(List.Mem.tail _ (List.Mem.tail _ (List.Mem.tail _ (List.Mem.tail _ (List.Mem.tail _ (List.Mem.head _)))))), (fun _ h => absurd h List.not_mem_nil)⟩)⟩)⟩)⟩) ?_
                  exact ih2 _ _ _ _ _ _ hGg25 (oz14 p2_0 s26 kn1) (kj_meas (oz1037 s26 kn1) (oz1038 c5 kn121) hm2)
            by_cases w27 : ((a2 101).getD l2_2.toNatClampNeg 0).toInt = 2
            ·
              refine ft_swx mi_k21 (pc := 48) (v := 2) (t := 144) (kj_eq w27 (by decide) : ((a2 101).getD l2_2.toNatClampNeg 0) = 2) (by decide +kernel) ?_
              have hG28 := kG_call hJ1 hL2 (by decide +kernel)
              first | refine ft_go mi_k21 1 145 [(2, .int (l2_2 + 1)), (5, .int ((a2 102).getD l2_2.toNatClampNeg 0)), (4, .int ((a2 101).getD l2_2.toNatClampNeg 0)), (3, .int l3_2), (0, .ref 100), (1, .ref 73)] [.ref 100] i2 a2 q2 r2 (by rfl) ?_ | refine ko_steps mi_in21 1 _ (145, [(2, .int (l2_2 + 1)), (5, .int ((a2 102).getD l2_2.toNatClampNeg 0)), (4, .int ((a2 101).getD l2_2.toNatClampNeg 0)), (3, .int l3_2), (0, .ref 100), (1, .ref 73)], [.ref 100], (0, 0), ks i2 a2 q2 r2) (by rfl) ?_
              refine ko_callI mi_k21.1 (pc := 145) (ls := [(2, .int (l2_2 + 1)), (5, .int ((a2 102).getD l2_2.toNatClampNeg 0)), (4, .int ((a2 101).getD l2_2.toNatClampNeg 0)), (3, .int l3_2), (0, .ref 100), (1, .ref 73)]) (st := [.ref 100]) (h := ks i2 a2 q2 r2) (i := (.invokevirtual 36, 3, 20, 0, 9, 0, 226)) (mi_k21.2 _ _ (by rfl)) (ft_invS mi_pq20 (by rfl)) (cy := mi_c20) mi_pq20 rfl (kc20_100 hG28.I hG28.R ) (by decide) ?_
              intro vg29 ig29 ag29 qg29 rg29 kg29 hg29
              have hGg29 := kG_call hG28 kg29 (by decide +kernel)
              exact ft_ret mi_k21 (by rfl) (hP vg29 _ _ _ _ hGg29 trivial)
            by_cases w30 : ((a2 101).getD l2_2.toNatClampNeg 0).toInt = 3
            ·
              refine ft_swx mi_k21 (pc := 48) (v := 3) (t := 149) (kj_eq w30 (by decide) : ((a2 101).getD l2_2.toNatClampNeg 0) = 3) (by decide +kernel) ?_
              first | refine ft_go mi_k21 1 150 [(2, .int (l2_2 + 1)), (5, .int ((a2 102).getD l2_2.toNatClampNeg 0)), (4, .int ((a2 101).getD l2_2.toNatClampNeg 0)), (3, .int l3_2), (0, .ref 100), (1, .ref 73)] [.ref 100] i2 a2 q2 r2 (by rfl) ?_ | refine ko_steps mi_in21 1 _ (150, [(2, .int (l2_2 + 1)), (5, .int ((a2 102).getD l2_2.toNatClampNeg 0)), (4, .int ((a2 101).getD l2_2.toNatClampNeg 0)), (3, .int l3_2), (0, .ref 100), (1, .ref 73)], [.ref 100], (0, 0), ks i2 a2 q2 r2) (by rfl) ?_
              refine ko_callI mi_k21.1 (pc := 150) (ls := [(2, .int (l2_2 + 1)), (5, .int ((a2 102).getD l2_2.toNatClampNeg 0)), (4, .int ((a2 101).getD l2_2.toNatClampNeg 0)), (3, .int l3_2), (0, .ref 100), (1, .ref 73)]) (st := [.ref 100]) (h := ks i2 a2 q2 r2) (i := (.invokevirtual 36, 3, 20, 0, 9, 0, 226)) (mi_k21.2 _ _ (by rfl)) (ft_invS mi_pq20 (by rfl)) (cy := mi_c20) mi_pq20 rfl (kc20_100 hL2.I hL2.R ) (by decide) ?_
              intro vg31 ig31 ag31 qg31 rg31 kg31 hg31
              have hGg31 := kG_call hL2 kg31 (by decide +kernel)
              refine ft_if mi_k21 (vg31 != 0) 214 156 [(2, .int (l2_2 + 1)), (5, .int ((a2 102).getD l2_2.toNatClampNeg 0)), (4, .int ((a2 101).getD l2_2.toNatClampNeg 0)), (3, .int l3_2), (0, .ref 100), (1, .ref 73)] [] (by rfl) (fun c => ?_) (fun c => ?_)
              ·
                have c32 : vg31.toInt ≠ (0 : Int32).toInt := kd_ne c; clear c
                have s33 : (l3_2 + 1).toInt = l3_2.toInt + (1 : Int32).toInt := kd_add (oz12 p2_0 kn1) (oz1036 c5 kn121 kn1)
                first | refine ft_go mi_k21 2 9 [(3, .int (l3_2 + 1)), (2, .int (l2_2 + 1)), (5, .int ((a2 102).getD l2_2.toNatClampNeg 0)), (4, .int ((a2 101).getD l2_2.toNatClampNeg 0)), (0, .ref 100), (1, .ref 73)] [] ig31 ag31 qg31 rg31 (by rfl) ?_ | refine ko_steps mi_in21 2 _ (9, [(3, .int (l3_2 + 1)), (2, .int (l2_2 + 1)), (5, .int ((a2 102).getD l2_2.toNatClampNeg 0)), (4, .int ((a2 101).getD l2_2.toNatClampNeg 0)), (0, .ref 100), (1, .ref 73)], [], (0, 0), ks ig31 ag31 qg31 rg31) (by rfl) ?_
                refine ko_perm [(3, .int (l3_2 + 1)), (2, .int (l2_2 + 1)), (0, .ref 100), (1, .ref 73)] (List.forall_mem_cons.mpr ⟨(List.Mem.head _), (List.forall_mem_cons.mpr ⟨(List.Mem.tail _ (List.Mem.head _)), (List.forall_mem_cons.mpr ⟨(List.Mem.tail _ (List.Mem.tail _ (List.Mem.tail _ (List.Mem.tail _ (List.Mem.head _))))), (List.forall_mem_cons.mpr ⟨(List.Mem.tail _ (List.Mem.tail _ (List.Mem.tail _ (List.Mem.tail _ (List.Mem.tail _ (List.Mem.head _)))))), (fun _ h => absurd h List.not_mem_nil)⟩)⟩)⟩)⟩) ?_
                exact ih2 _ _ _ _ _ _ hGg31 (oz14 p2_0 s33 kn1) (kj_meas (oz1037 s33 kn1) (oz1038 c5 kn121) hm2)
              ·
                have c34 : vg31.toInt = (0 : Int32).toInt := kd_neF c; clear c
                have s35 : (l3_2 + 1).toInt = l3_2.toInt + (1 : Int32).toInt := kd_add (oz12 p2_0 kn1) (oz1036 c5 kn121 kn1)
                first | refine ft_go mi_k21 5 9 [(3, .int (l3_2 + 1)), (2, .int ((a2 102).getD l2_2.toNatClampNeg 0)), (5, .int ((a2 102).getD l2_2.toNatClampNeg 0)), (4, .int ((a2 101).getD l2_2.toNatClampNeg 0)), (0, .ref 100), (1, .ref 73)] [] ig31 ag31 qg31 rg31 (by rfl) ?_ | refine ko_steps mi_in21 5 _ (9, [(3, .int (l3_2 + 1)), (2, .int ((a2 102).getD l2_2.toNatClampNeg 0)), (5, .int ((a2 102).getD l2_2.toNatClampNeg 0)), (4, .int ((a2 101).getD l2_2.toNatClampNeg 0)), (0, .ref 100), (1, .ref 73)], [], (0, 0), ks ig31 ag31 qg31 rg31) (by rfl) ?_
                refine ko_perm [(3, .int (l3_2 + 1)), (2, .int ((a2 102).getD l2_2.toNatClampNeg 0)), (0, .ref 100), (1, .ref 73)] (List.forall_mem_cons.mpr ⟨(List.Mem.head _), (List.forall_mem_cons.mpr ⟨(List.Mem.tail _ (List.Mem.head _)), (List.forall_mem_cons.mpr ⟨(List.Mem.tail _ (List.Mem.tail _ (List.Mem.tail _ (List.Mem.tail _ (List.Mem.head _))))), (List.forall_mem_cons.mpr ⟨(List.Mem.tail _ (List.Mem.tail _ (List.Mem.tail _ (List.Mem.tail _ (List.Mem.tail _ (List.Mem.head _)))))), (fun _ h => absurd h List.not_mem_nil)⟩)⟩)⟩)⟩) ?_
                exact ih2 _ _ _ _ _ _ hGg31 (oz14 p2_0 s35 kn1) (kj_meas (oz1037 s35 kn1) (oz1038 c5 kn121) hm2)
            by_cases w36 : ((a2 101).getD l2_2.toNatClampNeg 0).toInt = 33
            ·
              refine ft_swx mi_k21 (pc := 48) (v := 33) (t := 162) (kj_eq w36 (by decide) : ((a2 101).getD l2_2.toNatClampNeg 0) = 33) (by decide +kernel) ?_
              first | refine ft_go mi_k21 2 164 [(2, .int (l2_2 + 1)), (5, .int ((a2 102).getD l2_2.toNatClampNeg 0)), (4, .int ((a2 101).getD l2_2.toNatClampNeg 0)), (3, .int l3_2), (0, .ref 100), (1, .ref 73)] [.ref 100, .ref 100] i2 a2 q2 r2 (by rfl) ?_ | refine ko_steps mi_in21 2 _ (164, [(2, .int (l2_2 + 1)), (5, .int ((a2 102).getD l2_2.toNatClampNeg 0)), (4, .int ((a2 101).getD l2_2.toNatClampNeg 0)), (3, .int l3_2), (0, .ref 100), (1, .ref 73)], [.ref 100, .ref 100], (0, 0), ks i2 a2 q2 r2) (by rfl) ?_
              refine ko_callI mi_k21.1 (pc := 164) (ls := [(2, .int (l2_2 + 1)), (5, .int ((a2 102).getD l2_2.toNatClampNeg 0)), (4, .int ((a2 101).getD l2_2.toNatClampNeg 0)), (3, .int l3_2), (0, .ref 100), (1, .ref 73)]) (st := [.ref 100, .ref 100]) (h := ks i2 a2 q2 r2) (i := (.invokevirtual 36, 3, 20, 0, 9, 0, 226)) (mi_k21.2 _ _ (by rfl)) (ft_invS mi_pq20 (by rfl)) (cy := mi_c20) mi_pq20 rfl (kc20_100 hL2.I hL2.R ) (by decide) ?_
              intro vg37 ig37 ag37 qg37 rg37 kg37 hg37
              have hGg37 := kG_call hL2 kg37 (by decide +kernel)
              refine ft_if mi_k21 (vg37 != 0) 174 170 [(2, .int (l2_2 + 1)), (5, .int ((a2 102).getD l2_2.toNatClampNeg 0)), (4, .int ((a2 101).getD l2_2.toNatClampNeg 0)), (3, .int l3_2), (0, .ref 100), (1, .ref 73)] [.ref 100] (by rfl) (fun c => ?_) (fun c => ?_)
              ·
                have c38 : vg37.toInt ≠ (0 : Int32).toInt := kd_ne c; clear c
                first | refine ft_go mi_k21 1 175 [(2, .int (l2_2 + 1)), (5, .int ((a2 102).getD l2_2.toNatClampNeg 0)), (4, .int ((a2 101).getD l2_2.toNatClampNeg 0)), (3, .int l3_2), (0, .ref 100), (1, .ref 73)] [.int 0, .ref 100] ig37 ag37 qg37 rg37 (by rfl) ?_ | refine ko_steps mi_in21 1 _ (175, [(2, .int (l2_2 + 1)), (5, .int ((a2 102).getD l2_2.toNatClampNeg 0)), (4, .int ((a2 101).getD l2_2.toNatClampNeg 0)), (3, .int l3_2), (0, .ref 100), (1, .ref 73)], [.int 0, .ref 100], (0, 0), ks ig37 ag37 qg37 rg37) (by rfl) ?_
                refine ko_callN mi_k21.1 (pc := 175) (ls := [(2, .int (l2_2 + 1)), (5, .int ((a2 102).getD l2_2.toNatClampNeg 0)), (4, .int ((a2 101).getD l2_2.toNatClampNeg 0)), (3, .int l3_2), (0, .ref 100), (1, .ref 73)]) (st := [.int 0, .ref 100]) (h := ks ig37 ag37 qg37 rg37) (i := (.invokevirtual 32, 3, 19, 0, 9, 0, 225)) (mi_k21.2 _ _ (by rfl)) (ft_invS mi_pq19 (by rfl)) (cy := mi_c19) mi_pq19 rfl (kc19_100 hGg37.I hGg37.R 0) (by decide) ?_
                intro ig39 ag39 qg39 rg39 kg39 hg39
                have hGg39 := kG_call hGg37 kg39 (by decide +kernel)
                have s40 : (l3_2 + 1).toInt = l3_2.toInt + (1 : Int32).toInt := kd_add (oz12 p2_0 kn1) (oz1036 c5 kn121 kn1)
                first | refine ft_go mi_k21 3 9 [(3, .int (l3_2 + 1)), (2, .int (l2_2 + 1)), (5, .int ((a2 102).getD l2_2.toNatClampNeg 0)), (4, .int ((a2 101).getD l2_2.toNatClampNeg 0)), (0, .ref 100), (1, .ref 73)] [] ig39 ag39 qg39 rg39 (by rfl) ?_ | refine ko_steps mi_in21 3 _ (9, [(3, .int (l3_2 + 1)), (2, .int (l2_2 + 1)), (5, .int ((a2 102).getD l2_2.toNatClampNeg 0)), (4, .int ((a2 101).getD l2_2.toNatClampNeg 0)), (0, .ref 100), (1, .ref 73)], [], (0, 0), ks ig39 ag39 qg39 rg39) (by rfl) ?_
                refine ko_perm [(3, .int (l3_2 + 1)), (2, .int (l2_2 + 1)), (0, .ref 100), (1, .ref 73)] (List.forall_mem_cons.mpr ⟨(List.Mem.head _), (List.forall_mem_cons.mpr ⟨(List.Mem.tail _ (List.Mem.head _)), (List.forall_mem_cons.mpr ⟨(List.Mem.tail _ (List.Mem.tail _ (List.Mem.tail _ (List.Mem.tail _ (List.Mem.head _))))), (List.forall_mem_cons.mpr ⟨(List.Mem.tail _ (List.Mem.tail _ (List.Mem.tail _ (List.Mem.tail _ (List.Mem.tail _ (List.Mem.head _)))))), (fun _ h => absurd h List.not_mem_nil)⟩)⟩)⟩)⟩) ?_
                exact ih2 _ _ _ _ _ _ hGg39 (oz14 p2_0 s40 kn1) (kj_meas (oz1037 s40 kn1) (oz1038 c5 kn121) hm2)
              ·
                have c41 : vg37.toInt = (0 : Int32).toInt := kd_neF c; clear c
                first | refine ft_go mi_k21 2 175 [(2, .int (l2_2 + 1)), (5, .int ((a2 102).getD l2_2.toNatClampNeg 0)), (4, .int ((a2 101).getD l2_2.toNatClampNeg 0)), (3, .int l3_2), (0, .ref 100), (1, .ref 73)] [.int 1, .ref 100] ig37 ag37 qg37 rg37 (by rfl) ?_ | refine ko_steps mi_in21 2 _ (175, [(2, .int (l2_2 + 1)), (5, .int ((a2 102).getD l2_2.toNatClampNeg 0)), (4, .int ((a2 101).getD l2_2.toNatClampNeg 0)), (3, .int l3_2), (0, .ref 100), (1, .ref 73)], [.int 1, .ref 100], (0, 0), ks ig37 ag37 qg37 rg37) (by rfl) ?_
                refine ko_callN mi_k21.1 (pc := 175) (ls := [(2, .int (l2_2 + 1)), (5, .int ((a2 102).getD l2_2.toNatClampNeg 0)), (4, .int ((a2 101).getD l2_2.toNatClampNeg 0)), (3, .int l3_2), (0, .ref 100), (1, .ref 73)]) (st := [.int 1, .ref 100]) (h := ks ig37 ag37 qg37 rg37) (i := (.invokevirtual 32, 3, 19, 0, 9, 0, 225)) (mi_k21.2 _ _ (by rfl)) (ft_invS mi_pq19 (by rfl)) (cy := mi_c19) mi_pq19 rfl (kc19_100 hGg37.I hGg37.R 1) (by decide) ?_
                intro ig42 ag42 qg42 rg42 kg42 hg42
                have hGg42 := kG_call hGg37 kg42 (by decide +kernel)
                have s43 : (l3_2 + 1).toInt = l3_2.toInt + (1 : Int32).toInt := kd_add (oz12 p2_0 kn1) (oz1036 c5 kn121 kn1)
                first | refine ft_go mi_k21 3 9 [(3, .int (l3_2 + 1)), (2, .int (l2_2 + 1)), (5, .int ((a2 102).getD l2_2.toNatClampNeg 0)), (4, .int ((a2 101).getD l2_2.toNatClampNeg 0)), (0, .ref 100), (1, .ref 73)] [] ig42 ag42 qg42 rg42 (by rfl) ?_ | refine ko_steps mi_in21 3 _ (9, [(3, .int (l3_2 + 1)), (2, .int (l2_2 + 1)), (5, .int ((a2 102).getD l2_2.toNatClampNeg 0)), (4, .int ((a2 101).getD l2_2.toNatClampNeg 0)), (0, .ref 100), (1, .ref 73)], [], (0, 0), ks ig42 ag42 qg42 rg42) (by rfl) ?_
                refine ko_perm [(3, .int (l3_2 + 1)), (2, .int (l2_2 + 1)), (0, .ref 100), (1, .ref 73)] (List.forall_mem_cons.mpr ⟨(List.Mem.head _), (List.forall_mem_cons.mpr ⟨(List.Mem.tail _ (List.Mem.head _)), (List.forall_mem_cons.mpr ⟨(List.Mem.tail _ (List.Mem.tail _ (List.Mem.tail _ (List.Mem.tail _ (List.Mem.head _))))), (List.forall_mem_cons.mpr ⟨(List.Mem.tail _ (List.Mem.tail _ (List.Mem.tail _ (List.Mem.tail _ (List.Mem.tail _ (List.Mem.head _)))))), (fun _ h => absurd h List.not_mem_nil)⟩)⟩)⟩)⟩) ?_
                exact ih2 _ _ _ _ _ _ hGg42 (oz14 p2_0 s43 kn1) (kj_meas (oz1037 s43 kn1) (oz1038 c5 kn121) hm2)
            by_cases w44 : ((a2 101).getD l2_2.toNatClampNeg 0).toInt = 126
            ·
              refine ft_swx mi_k21 (pc := 48) (v := 126) (t := 181) (kj_eq w44 (by decide) : ((a2 101).getD l2_2.toNatClampNeg 0) = 126) (by decide +kernel) ?_
              first | refine ft_go mi_k21 2 183 [(2, .int (l2_2 + 1)), (5, .int ((a2 102).getD l2_2.toNatClampNeg 0)), (4, .int ((a2 101).getD l2_2.toNatClampNeg 0)), (3, .int l3_2), (0, .ref 100), (1, .ref 73)] [.ref 100, .ref 100] i2 a2 q2 r2 (by rfl) ?_ | refine ko_steps mi_in21 2 _ (183, [(2, .int (l2_2 + 1)), (5, .int ((a2 102).getD l2_2.toNatClampNeg 0)), (4, .int ((a2 101).getD l2_2.toNatClampNeg 0)), (3, .int l3_2), (0, .ref 100), (1, .ref 73)], [.ref 100, .ref 100], (0, 0), ks i2 a2 q2 r2) (by rfl) ?_
              refine ko_callI mi_k21.1 (pc := 183) (ls := [(2, .int (l2_2 + 1)), (5, .int ((a2 102).getD l2_2.toNatClampNeg 0)), (4, .int ((a2 101).getD l2_2.toNatClampNeg 0)), (3, .int l3_2), (0, .ref 100), (1, .ref 73)]) (st := [.ref 100, .ref 100]) (h := ks i2 a2 q2 r2) (i := (.invokevirtual 36, 3, 20, 0, 9, 0, 226)) (mi_k21.2 _ _ (by rfl)) (ft_invS mi_pq20 (by rfl)) (cy := mi_c20) mi_pq20 rfl (kc20_100 hL2.I hL2.R ) (by decide) ?_
              intro vg45 ig45 ag45 qg45 rg45 kg45 hg45
              have hGg45 := kG_call hL2 kg45 (by decide +kernel)
              first | refine ft_go mi_k21 1 187 [(2, .int (l2_2 + 1)), (5, .int ((a2 102).getD l2_2.toNatClampNeg 0)), (4, .int ((a2 101).getD l2_2.toNatClampNeg 0)), (3, .int l3_2), (0, .ref 100), (1, .ref 73)] [.int (-vg45), .ref 100] ig45 ag45 qg45 rg45 (by rfl) ?_ | refine ko_steps mi_in21 1 _ (187, [(2, .int (l2_2 + 1)), (5, .int ((a2 102).getD l2_2.toNatClampNeg 0)), (4, .int ((a2 101).getD l2_2.toNatClampNeg 0)), (3, .int l3_2), (0, .ref 100), (1, .ref 73)], [.int (-vg45), .ref 100], (0, 0), ks ig45 ag45 qg45 rg45) (by rfl) ?_
              refine ko_callN mi_k21.1 (pc := 187) (ls := [(2, .int (l2_2 + 1)), (5, .int ((a2 102).getD l2_2.toNatClampNeg 0)), (4, .int ((a2 101).getD l2_2.toNatClampNeg 0)), (3, .int l3_2), (0, .ref 100), (1, .ref 73)]) (st := [.int (-vg45), .ref 100]) (h := ks ig45 ag45 qg45 rg45) (i := (.invokevirtual 32, 3, 19, 0, 9, 0, 225)) (mi_k21.2 _ _ (by rfl)) (ft_invS mi_pq19 (by rfl)) (cy := mi_c19) mi_pq19 rfl (kc19_100 hGg45.I hGg45.R (-vg45)) (by decide) ?_
              intro ig46 ag46 qg46 rg46 kg46 hg46
              have hGg46 := kG_call hGg45 kg46 (by decide +kernel)
              have s47 : (l3_2 + 1).toInt = l3_2.toInt + (1 : Int32).toInt := kd_add (oz12 p2_0 kn1) (oz1036 c5 kn121 kn1)
              first | refine ft_go mi_k21 3 9 [(3, .int (l3_2 + 1)), (2, .int (l2_2 + 1)), (5, .int ((a2 102).getD l2_2.toNatClampNeg 0)), (4, .int ((a2 101).getD l2_2.toNatClampNeg 0)), (0, .ref 100), (1, .ref 73)] [] ig46 ag46 qg46 rg46 (by rfl) ?_ | refine ko_steps mi_in21 3 _ (9, [(3, .int (l3_2 + 1)), (2, .int (l2_2 + 1)), (5, .int ((a2 102).getD l2_2.toNatClampNeg 0)), (4, .int ((a2 101).getD l2_2.toNatClampNeg 0)), (0, .ref 100), (1, .ref 73)], [], (0, 0), ks ig46 ag46 qg46 rg46) (by rfl) ?_
              refine ko_perm [(3, .int (l3_2 + 1)), (2, .int (l2_2 + 1)), (0, .ref 100), (1, .ref 73)] (List.forall_mem_cons.mpr ⟨(List.Mem.head _), (List.forall_mem_cons.mpr ⟨(List.Mem.tail _ (List.Mem.head _)), (List.forall_mem_cons.mpr ⟨(List.Mem.tail _ (List.Mem.tail _ (List.Mem.tail _ (List.Mem.tail _ (List.Mem.head _))))), (List.forall_mem_cons.mpr ⟨(List.Mem.tail _ (List.Mem.tail _ (List.Mem.tail _ (List.Mem.tail _ (List.Mem.tail _ (List.Mem.head _)))))), (fun _ h => absurd h List.not_mem_nil)⟩)⟩)⟩)⟩) ?_
              exact ih2 _ _ _ _ _ _ hGg46 (oz14 p2_0 s47 kn1) (kj_meas (oz1037 s47 kn1) (oz1038 c5 kn121) hm2)
            refine ko_lsw (ls := [(2, .int (l2_2 + 1)), (5, .int ((a2 102).getD l2_2.toNatClampNeg 0)), (4, .int ((a2 101).getD l2_2.toNatClampNeg 0)), (3, .int l3_2), (0, .ref 100), (1, .ref 73)]) (r := []) (h := ks i2 a2 q2 r2) mi_in21 (v := ((a2 101).getD l2_2.toNatClampNeg 0)) (i := (.lookupswitch 145 #[(0, 60), (1, 69), (2, 96), (3, 101), (33, 114), (126, 133)], 60, 0, 0, 0, 0, 0)) (by rfl) rfl (by simp only [Op.lookupswitch.offset, if_neg (Ne.symm w13), if_neg (Ne.symm w16), if_neg (Ne.symm w27), if_neg (Ne.symm w30), if_neg (Ne.symm w36), if_neg (Ne.symm w44)] <;> rfl) 193 (by rfl) ?_
            first | refine ft_go mi_k21 1 194 [(2, .int (l2_2 + 1)), (5, .int ((a2 102).getD l2_2.toNatClampNeg 0)), (4, .int ((a2 101).getD l2_2.toNatClampNeg 0)), (3, .int l3_2), (0, .ref 100), (1, .ref 73)] [.ref 100] i2 a2 q2 r2 (by rfl) ?_ | refine ko_steps mi_in21 1 _ (194, [(2, .int (l2_2 + 1)), (5, .int ((a2 102).getD l2_2.toNatClampNeg 0)), (4, .int ((a2 101).getD l2_2.toNatClampNeg 0)), (3, .int l3_2), (0, .ref 100), (1, .ref 73)], [.ref 100], (0, 0), ks i2 a2 q2 r2) (by rfl) ?_
            refine ko_callI mi_k21.1 (pc := 194) (ls := [(2, .int (l2_2 + 1)), (5, .int ((a2 102).getD l2_2.toNatClampNeg 0)), (4, .int ((a2 101).getD l2_2.toNatClampNeg 0)), (3, .int l3_2), (0, .ref 100), (1, .ref 73)]) (st := [.ref 100]) (h := ks i2 a2 q2 r2) (i := (.invokevirtual 36, 3, 20, 0, 9, 0, 226)) (mi_k21.2 _ _ (by rfl)) (ft_invS mi_pq20 (by rfl)) (cy := mi_c20) mi_pq20 rfl (kc20_100 hL2.I hL2.R ) (by decide) ?_
            intro vg48 ig48 ag48 qg48 rg48 kg48 hg48
            have hGg48 := kG_call hL2 kg48 (by decide +kernel)
            first | refine ft_go mi_k21 4 203 [(6, .int vg48), (2, .int (l2_2 + 1)), (5, .int ((a2 102).getD l2_2.toNatClampNeg 0)), (4, .int ((a2 101).getD l2_2.toNatClampNeg 0)), (3, .int l3_2), (0, .ref 100), (1, .ref 73)] [.ref 100, .int ((a2 101).getD l2_2.toNatClampNeg 0), .ref 100] ig48 ag48 qg48 rg48 (by rfl) ?_ | refine ko_steps mi_in21 4 _ (203, [(6, .int vg48), (2, .int (l2_2 + 1)), (5, .int ((a2 102).getD l2_2.toNatClampNeg 0)), (4, .int ((a2 101).getD l2_2.toNatClampNeg 0)), (3, .int l3_2), (0, .ref 100), (1, .ref 73)], [.ref 100, .int ((a2 101).getD l2_2.toNatClampNeg 0), .ref 100], (0, 0), ks ig48 ag48 qg48 rg48) (by rfl) ?_
            refine ko_callI mi_k21.1 (pc := 203) (ls := [(6, .int vg48), (2, .int (l2_2 + 1)), (5, .int ((a2 102).getD l2_2.toNatClampNeg 0)), (4, .int ((a2 101).getD l2_2.toNatClampNeg 0)), (3, .int l3_2), (0, .ref 100), (1, .ref 73)]) (st := [.ref 100, .int ((a2 101).getD l2_2.toNatClampNeg 0), .ref 100]) (h := ks ig48 ag48 qg48 rg48) (i := (.invokevirtual 36, 3, 20, 0, 9, 0, 226)) (mi_k21.2 _ _ (by rfl)) (ft_invS mi_pq20 (by rfl)) (cy := mi_c20) mi_pq20 rfl (kc20_100 hGg48.I hGg48.R ) (by decide) ?_
            intro vg49 ig49 ag49 qg49 rg49 kg49 hg49
            have hGg49 := kG_call hGg48 kg49 (by decide +kernel)
            first | refine ft_go mi_k21 1 208 [(6, .int vg48), (2, .int (l2_2 + 1)), (5, .int ((a2 102).getD l2_2.toNatClampNeg 0)), (4, .int ((a2 101).getD l2_2.toNatClampNeg 0)), (3, .int l3_2), (0, .ref 100), (1, .ref 73)] [.int vg48, .int vg49, .int ((a2 101).getD l2_2.toNatClampNeg 0), .ref 100] ig49 ag49 qg49 rg49 (by rfl) ?_ | refine ko_steps mi_in21 1 _ (208, [(6, .int vg48), (2, .int (l2_2 + 1)), (5, .int ((a2 102).getD l2_2.toNatClampNeg 0)), (4, .int ((a2 101).getD l2_2.toNatClampNeg 0)), (3, .int l3_2), (0, .ref 100), (1, .ref 73)], [.int vg48, .int vg49, .int ((a2 101).getD l2_2.toNatClampNeg 0), .ref 100], (0, 0), ks ig49 ag49 qg49 rg49) (by rfl) ?_
            refine ko_callPI mi_k21.1 (pc := 208) (ls := [(6, .int vg48), (2, .int (l2_2 + 1)), (5, .int ((a2 102).getD l2_2.toNatClampNeg 0)), (4, .int ((a2 101).getD l2_2.toNatClampNeg 0)), (3, .int l3_2), (0, .ref 100), (1, .ref 73)]) (st := [.int vg48, .int vg49, .int ((a2 101).getD l2_2.toNatClampNeg 0), .ref 100]) (h := ks ig49 ag49 qg49 rg49) (i := (.invokestatic 40, 3, 22, 0, 9, 0, 227)) (mi_k21.2 _ _ (by rfl)) (ft_invS mi_pq22 (by rfl)) (cy := mi_c22) mi_pq22 rfl (kc22 hGg49.I hGg49.R ((a2 101).getD l2_2.toNatClampNeg 0) vg49 vg48) (by decide) ?_
            intro vg50 hg50
            refine ko_callN mi_k21.1 (pc := 211) (ls := [(6, .int vg48), (2, .int (l2_2 + 1)), (5, .int ((a2 102).getD l2_2.toNatClampNeg 0)), (4, .int ((a2 101).getD l2_2.toNatClampNeg 0)), (3, .int l3_2), (0, .ref 100), (1, .ref 73)]) (st := [.int vg50, .ref 100]) (h := ks ig49 ag49 qg49 rg49) (i := (.invokevirtual 32, 3, 19, 0, 9, 0, 225)) (mi_k21.2 _ _ (by rfl)) (ft_invS mi_pq19 (by rfl)) (cy := mi_c19) mi_pq19 rfl (kc19_100 hGg49.I hGg49.R vg50) (by decide) ?_
            intro ig51 ag51 qg51 rg51 kg51 hg51
            have hGg51 := kG_call hGg49 kg51 (by decide +kernel)
            have s52 : (l3_2 + 1).toInt = l3_2.toInt + (1 : Int32).toInt := kd_add (oz12 p2_0 kn1) (oz1036 c5 kn121 kn1)
            first | refine ft_go mi_k21 2 9 [(3, .int (l3_2 + 1)), (6, .int vg48), (2, .int (l2_2 + 1)), (5, .int ((a2 102).getD l2_2.toNatClampNeg 0)), (4, .int ((a2 101).getD l2_2.toNatClampNeg 0)), (0, .ref 100), (1, .ref 73)] [] ig51 ag51 qg51 rg51 (by rfl) ?_ | refine ko_steps mi_in21 2 _ (9, [(3, .int (l3_2 + 1)), (6, .int vg48), (2, .int (l2_2 + 1)), (5, .int ((a2 102).getD l2_2.toNatClampNeg 0)), (4, .int ((a2 101).getD l2_2.toNatClampNeg 0)), (0, .ref 100), (1, .ref 73)], [], (0, 0), ks ig51 ag51 qg51 rg51) (by rfl) ?_
            refine ko_perm [(3, .int (l3_2 + 1)), (2, .int (l2_2 + 1)), (0, .ref 100), (1, .ref 73)] (List.forall_mem_cons.mpr ⟨(List.Mem.head _), (List.forall_mem_cons.mpr ⟨(List.Mem.tail _ (List.Mem.tail _ (List.Mem.head _))), (List.forall_mem_cons.mpr ⟨(List.Mem.tail _ (List.Mem.tail _ (List.Mem.tail _ (List.Mem.tail _ (List.Mem.tail _ (List.Mem.head _)))))), (List.forall_mem_cons.mpr ⟨(List.Mem.tail _ (List.Mem.tail _ (List.Mem.tail _ (List.Mem.tail _ (List.Mem.tail _ (List.Mem.tail _ (List.Mem.head _))))))), (fun _ h => absurd h List.not_mem_nil)⟩)⟩)⟩)⟩) ?_
            exact ih2 _ _ _ _ _ _ hGg51 (oz14 p2_0 s52 kn1) (kj_meas (oz1037 s52 kn1) (oz1038 c5 kn121) hm2)
  exact lp2 _ _ _ _ _ _ _ (kG_self _ hJ1.I hJ1.R) (oz46 kn0) (Nat.lt_succ_self _)
def w31_50 : kW := ([645, 3781, 6405], [13, 62, 73, 103], [], [])
set_option maxRecDepth 100000 in
theorem kc31_50 {i : Nat → Int32} {a : Nat → List Int32} {q : Nat → List Int64} {r : Nat → Nat} (hI : kI i a q) (hr : kr r) (x1 : Int32) (x2 : Int32) (hp0 : ((0 : Int) ≤ x1.toInt) ∧ (x1.toInt ≤ 7)) : km 5 31 [.ref 50, .int x1, .int x2] (ks i a q r) (kVI w31_50 i a q r (fun v i1 a1 q1 r1 => True)) := by
  have hG := kG_self w31_50 hI hr
  refine km_ofI (q := (mi_h31, mi_c31)) rfl (by decide) (Nat.le_of_ble_eq_true rfl) ?_
  intro P hP
  refine ft_go mi_k31 4 6 [(0, .ref 50), (1, .int x1), (2, .int x2)] [.int x1, .ref 52, .int 5] i a q r (by rfl) ?_
  refine ko_iald3 mi_k31.1 (n := 8) (c := 8) (ax := (0, 0, 0, 0, 0)) (mi_k31.2 _ _ (by rfl)) (by rfl) (ksG52 _ _ _ _) (hG.I.2.1 52) rfl (oz3 hp0.1) (oz1032 hp0.2) ?_
  have b1 : ((-2147483648 : Int) ≤ ((a 52).getD x1.toNatClampNeg 0).toInt) ∧ (((a 52).getD x1.toNatClampNeg 0).toInt ≤ 2147483647) := kd_bd ((a 52).getD x1.toNatClampNeg 0)
  refine ft_go mi_k31 4 13 [(0, .ref 50), (1, .int x1), (2, .int x2)] [.int x1, .ref 53, .int (5 * ((a 52).getD x1.toNatClampNeg 0))] i a q r (by rfl) ?_
  refine ko_iald3 mi_k31.1 (n := 8) (c := 8) (ax := (0, 0, 0, 0, 0)) (mi_k31.2 _ _ (by rfl)) (by rfl) (ksG53 _ _ _ _) (hG.I.2.1 53) rfl (oz3 hp0.1) (oz1032 hp0.2) ?_
  have b2 : ((-2147483648 : Int) ≤ (5 * ((a 52).getD x1.toNatClampNeg 0)).toInt) ∧ ((5 * ((a 52).getD x1.toNatClampNeg 0)).toInt ≤ 2147483647) := kd_bd (5 * ((a 52).getD x1.toNatClampNeg 0))
  have b3 : ((-2147483648 : Int) ≤ ((a 53).getD x1.toNatClampNeg 0).toInt) ∧ (((a 53).getD x1.toNatClampNeg 0).toInt ≤ 2147483647) := kd_bd ((a 53).getD x1.toNatClampNeg 0)
  refine ft_go mi_k31 5 21 [(0, .ref 50), (1, .int x1), (2, .int x2)] [.int x1, .ref 55, .int 2, .int ((5 * ((a 52).getD x1.toNatClampNeg 0)) + ((a 53).getD x1.toNatClampNeg 0))] i a q r (by rfl) ?_
  refine ko_iald3 mi_k31.1 (n := 8) (c := 8) (ax := (0, 0, 0, 0, 0)) (mi_k31.2 _ _ (by rfl)) (by rfl) (ksG55 _ _ _ _) (hG.I.2.1 55) rfl (oz3 hp0.1) (oz1032 hp0.2) ?_
  have b4 : ((-2147483648 : Int) ≤ ((a 55).getD x1.toNatClampNeg 0).toInt) ∧ (((a 55).getD x1.toNatClampNeg 0).toInt ≤ 2147483647) := kd_bd ((a 55).getD x1.toNatClampNeg 0)
  have b5 : ((-2147483648 : Int) ≤ ((5 * ((a 52).getD x1.toNatClampNeg 0)) + ((a 53).getD x1.toNatClampNeg 0)).toInt) ∧ (((5 * ((a 52).getD x1.toNatClampNeg 0)) + ((a 53).getD x1.toNatClampNeg 0)).toInt ≤ 2147483647) := kd_bd ((5 * ((a 52).getD x1.toNatClampNeg 0)) + ((a 53).getD x1.toNatClampNeg 0))
  have b6 : ((-2147483648 : Int) ≤ (2 * ((a 55).getD x1.toNatClampNeg 0)).toInt) ∧ ((2 * ((a 55).getD x1.toNatClampNeg 0)).toInt ≤ 2147483647) := kd_bd (2 * ((a 55).getD x1.toNatClampNeg 0))
  refine ft_go mi_k31 5 29 [(3, .int (((5 * ((a 52).getD x1.toNatClampNeg 0)) + ((a 53).getD x1.toNatClampNeg 0)) - (2 * ((a 55).getD x1.toNatClampNeg 0)))), (0, .ref 50), (1, .int x1), (2, .int x2)] [.ref (r 1)] i a q r (by rfl) ?_
  rcases hG.R.2 with eRr_1 | eRr_1 | eRr_1
  ·
    have eRr_1 : r 1 = 59 := eRr_1
    refine ko_eq (x1 := (29, [(3, .int (((5 * ((a 52).getD x1.toNatClampNeg 0)) + ((a 53).getD x1.toNatClampNeg 0)) - (2 * ((a 55).getD x1.toNatClampNeg 0)))), (0, .ref 50), (1, .int x1), (2, .int x2)], [.ref 59], (0, 0), ks i a q r)) (by rw [eRr_1]) ?_
    refine ft_go mi_k31 1 32 [(3, .int (((5 * ((a 52).getD x1.toNatClampNeg 0)) + ((a 53).getD x1.toNatClampNeg 0)) - (2 * ((a 55).getD x1.toNatClampNeg 0)))), (0, .ref 50), (1, .int x1), (2, .int x2)] [.int (i 3776)] i a q r (by rfl) ?_
    refine ft_if mi_k31 ((i 3776) == 0) 110 35 [(3, .int (((5 * ((a 52).getD x1.toNatClampNeg 0)) + ((a 53).getD x1.toNatClampNeg 0)) - (2 * ((a 55).getD x1.toNatClampNeg 0)))), (0, .ref 50), (1, .int x1), (2, .int x2)] [] (by rfl) (fun c => ?_) (fun c => ?_)
    ·
      have c7 : (i 3776).toInt = (0 : Int32).toInt := kd_eq c; clear c
      refine ft_go mi_k31 3 114 [(3, .int (((5 * ((a 52).getD x1.toNatClampNeg 0)) + ((a 53).getD x1.toNatClampNeg 0)) - (2 * ((a 55).getD x1.toNatClampNeg 0)))), (0, .ref 50), (1, .int x1), (2, .int x2)] [.int (((5 * ((a 52).getD x1.toNatClampNeg 0)) + ((a 53).getD x1.toNatClampNeg 0)) - (2 * ((a 55).getD x1.toNatClampNeg 0))), .int 99, .int 0] i a q r (by rfl) ?_
      have m9 : (((bif decide ((((5 * ((a 52).getD x1.toNatClampNeg 0)) + ((a 53).getD x1.toNatClampNeg 0)) - (2 * ((a 55).getD x1.toNatClampNeg 0))) < 99) then (((5 * ((a 52).getD x1.toNatClampNeg 0)) + ((a 53).getD x1.toNatClampNeg 0)) - (2 * ((a 55).getD x1.toNatClampNeg 0))) else 99).toInt ≤ (99 : Int32).toInt) ∧ ((bif decide ((((5 * ((a 52).getD x1.toNatClampNeg 0)) + ((a 53).getD x1.toNatClampNeg 0)) - (2 * ((a 55).getD x1.toNatClampNeg 0))) < 99) then (((5 * ((a 52).getD x1.toNatClampNeg 0)) + ((a 53).getD x1.toNatClampNeg 0)) - (2 * ((a 55).getD x1.toNatClampNeg 0))) else 99).toInt ≤ (((5 * ((a 52).getD x1.toNatClampNeg 0)) + ((a 53).getD x1.toNatClampNeg 0)) - (2 * ((a 55).getD x1.toNatClampNeg 0))).toInt)) ∧ ((bif decide ((((5 * ((a 52).getD x1.toNatClampNeg 0)) + ((a 53).getD x1.toNatClampNeg 0)) - (2 * ((a 55).getD x1.toNatClampNeg 0))) < 99) then (((5 * ((a 52).getD x1.toNatClampNeg 0)) + ((a 53).getD x1.toNatClampNeg 0)) - (2 * ((a 55).getD x1.toNatClampNeg 0))) else 99).toInt = (99 : Int32).toInt ∨ (bif decide ((((5 * ((a 52).getD x1.toNatClampNeg 0)) + ((a 53).getD x1.toNatClampNeg 0)) - (2 * ((a 55).getD x1.toNatClampNeg 0))) < 99) then (((5 * ((a 52).getD x1.toNatClampNeg 0)) + ((a 53).getD x1.toNatClampNeg 0)) - (2 * ((a 55).getD x1.toNatClampNeg 0))) else 99).toInt = (((5 * ((a 52).getD x1.toNatClampNeg 0)) + ((a 53).getD x1.toNatClampNeg 0)) - (2 * ((a 55).getD x1.toNatClampNeg 0))).toInt) := kd_min
      refine ft_go mi_k31 1 117 [(3, .int (((5 * ((a 52).getD x1.toNatClampNeg 0)) + ((a 53).getD x1.toNatClampNeg 0)) - (2 * ((a 55).getD x1.toNatClampNeg 0)))), (0, .ref 50), (1, .int x1), (2, .int x2)] [.int (bif decide ((((5 * ((a 52).getD x1.toNatClampNeg 0)) + ((a 53).getD x1.toNatClampNeg 0)) - (2 * ((a 55).getD x1.toNatClampNeg 0))) < 99) then (((5 * ((a 52).getD x1.toNatClampNeg 0)) + ((a 53).getD x1.toNatClampNeg 0)) - (2 * ((a 55).getD x1.toNatClampNeg 0))) else 99), .int 0] i a q r (by rfl) ?_
      generalize (bif decide ((((5 * ((a 52).getD x1.toNatClampNeg 0)) + ((a 53).getD x1.toNatClampNeg 0)) - (2 * ((a 55).getD x1.toNatClampNeg 0))) < 99) then (((5 * ((a 52).getD x1.toNatClampNeg 0)) + ((a 53).getD x1.toNatClampNeg 0)) - (2 * ((a 55).getD x1.toNatClampNeg 0))) else 99) = m8 at m9 ⊢
      have m11 : (((0 : Int32).toInt ≤ (bif decide (0 < m8) then m8 else 0).toInt) ∧ (m8.toInt ≤ (bif decide (0 < m8) then m8 else 0).toInt)) ∧ ((bif decide (0 < m8) then m8 else 0).toInt = (0 : Int32).toInt ∨ (bif decide (0 < m8) then m8 else 0).toInt = m8.toInt) := kd_max
      refine ft_go mi_k31 1 120 [(3, .int (((5 * ((a 52).getD x1.toNatClampNeg 0)) + ((a 53).getD x1.toNatClampNeg 0)) - (2 * ((a 55).getD x1.toNatClampNeg 0)))), (0, .ref 50), (1, .int x1), (2, .int x2)] [.int (bif decide (0 < m8) then m8 else 0)] i a q r (by rfl) ?_
      generalize (bif decide (0 < m8) then m8 else 0) = m10 at m11 ⊢
      exact ft_ret mi_k31 (by rfl) (hP m10 _ _ _ _ hG trivial)
    ·
      have c12 : (i 3776).toInt ≠ (0 : Int32).toInt := kd_eqF c; clear c
      refine ft_go mi_k31 6 45 [(3, .int (((5 * ((a 52).getD x1.toNatClampNeg 0)) + ((a 53).getD x1.toNatClampNeg 0)) - (2 * ((a 55).getD x1.toNatClampNeg 0)))), (0, .ref 50), (1, .int x1), (2, .int x2)] [.int x1, .ref 52, .int 0, .ref 73] i a q r (by rfl) ?_
      refine ko_iald3 mi_k31.1 (n := 8) (c := 8) (ax := (0, 0, 0, 0, 0)) (mi_k31.2 _ _ (by rfl)) (by rfl) (ksG52 _ _ _ _) (hG.I.2.1 52) rfl (oz3 hp0.1) (oz1032 hp0.2) ?_
      refine ko_iast3 mi_k31.1 (n := 6) (c := 6) (ax := (0, 0, 0, 0, 0)) (mi_k31.2 _ _ (by rfl)) (by rfl) (ksG73 _ _ _ _) (ksA73 _ _ _ _) (hG.I.2.1 73) rfl (oz46 kn0) (oz255 kn0) ?_
      intro a13 ea13 fa13
      have hJ13 := kG_a3 hG 73 rfl ea13 fa13 (kd_bd _)
      refine ft_go mi_k31 4 53 [(3, .int (((5 * ((a 52).getD x1.toNatClampNeg 0)) + ((a 53).getD x1.toNatClampNeg 0)) - (2 * ((a 55).getD x1.toNatClampNeg 0)))), (0, .ref 50), (1, .int x1), (2, .int x2)] [.int x2, .int 1, .ref 73] i a13 q r (by rfl) ?_
      refine ko_iast3 mi_k31.1 (n := 6) (c := 6) (ax := (0, 0, 0, 0, 0)) (mi_k31.2 _ _ (by rfl)) (by rfl) (ksG73 _ _ _ _) (ksA73 _ _ _ _) (hJ13.I.2.1 73) rfl (oz246 kn1) (oz247 kn1) ?_
      intro a14 ea14 fa14
      have hJ14 := kG_a3 hJ13 73 rfl ea14 fa14 (kd_bd _)
      refine ft_go mi_k31 6 64 [(3, .int (((5 * ((a 52).getD x1.toNatClampNeg 0)) + ((a 53).getD x1.toNatClampNeg 0)) - (2 * ((a 55).getD x1.toNatClampNeg 0)))), (0, .ref 50), (1, .int x1), (2, .int x2)] [.int x1, .ref 53, .int 2, .ref 73] i a14 q r (by rfl) ?_
      refine ko_iald3 mi_k31.1 (n := 8) (c := 8) (ax := (0, 0, 0, 0, 0)) (mi_k31.2 _ _ (by rfl)) (by rfl) (ksG53 _ _ _ _) (hJ14.I.2.1 53) rfl (oz3 hp0.1) (oz1032 hp0.2) ?_
      refine ko_iast3 mi_k31.1 (n := 6) (c := 6) (ax := (0, 0, 0, 0, 0)) (mi_k31.2 _ _ (by rfl)) (by rfl) (ksG73 _ _ _ _) (ksA73 _ _ _ _) (hJ14.I.2.1 73) rfl (oz256 kn2) (oz257 kn2) ?_
      intro a15 ea15 fa15
      have hJ15 := kG_a3 hJ14 73 rfl ea15 fa15 (kd_bd _)
      refine ft_go mi_k31 5 75 [(3, .int (((5 * ((a 52).getD x1.toNatClampNeg 0)) + ((a 53).getD x1.toNatClampNeg 0)) - (2 * ((a 55).getD x1.toNatClampNeg 0)))), (0, .ref 50), (1, .int x1), (2, .int x2)] [.int (i 3209), .int 3, .ref 73] i a15 q r (by rfl) ?_
      refine ko_iast3 mi_k31.1 (n := 6) (c := 6) (ax := (0, 0, 0, 0, 0)) (mi_k31.2 _ _ (by rfl)) (by rfl) (ksG73 _ _ _ _) (ksA73 _ _ _ _) (hJ15.I.2.1 73) rfl (oz260 kn3) (oz261 kn3) ?_
      intro a16 ea16 fa16
      have hJ16 := kG_a3 hJ15 73 rfl ea16 fa16 (kd_bd _)
      refine ft_go mi_k31 6 86 [(3, .int (((5 * ((a 52).getD x1.toNatClampNeg 0)) + ((a 53).getD x1.toNatClampNeg 0)) - (2 * ((a 55).getD x1.toNatClampNeg 0)))), (0, .ref 50), (1, .int x1), (2, .int x2)] [.int x1, .ref 55, .int 4, .ref 73] i a16 q r (by rfl) ?_
      refine ko_iald3 mi_k31.1 (n := 8) (c := 8) (ax := (0, 0, 0, 0, 0)) (mi_k31.2 _ _ (by rfl)) (by rfl) (ksG55 _ _ _ _) (hJ16.I.2.1 55) rfl (oz3 hp0.1) (oz1032 hp0.2) ?_
      refine ko_iast3 mi_k31.1 (n := 6) (c := 6) (ax := (0, 0, 0, 0, 0)) (mi_k31.2 _ _ (by rfl)) (by rfl) (ksG73 _ _ _ _) (ksA73 _ _ _ _) (hJ16.I.2.1 73) rfl (oz262 kn4) (oz263 kn4) ?_
      intro a17 ea17 fa17
      have hJ17 := kG_a3 hJ16 73 rfl ea17 fa17 (kd_bd _)
      refine ft_go mi_k31 5 97 [(3, .int (((5 * ((a 52).getD x1.toNatClampNeg 0)) + ((a 53).getD x1.toNatClampNeg 0)) - (2 * ((a 55).getD x1.toNatClampNeg 0)))), (0, .ref 50), (1, .int x1), (2, .int x2)] [.int (i 3208), .int 5, .ref 73] i a17 q r (by rfl) ?_
      refine ko_iast3 mi_k31.1 (n := 6) (c := 6) (ax := (0, 0, 0, 0, 0)) (mi_k31.2 _ _ (by rfl)) (by rfl) (ksG73 _ _ _ _) (ksA73 _ _ _ _) (hJ17.I.2.1 73) rfl (oz264 kn5) (oz265 kn5) ?_
      intro a18 ea18 fa18
      have hJ18 := kG_a3 hJ17 73 rfl ea18 fa18 (kd_bd _)
      refine ft_go mi_k31 2 102 [(3, .int (((5 * ((a 52).getD x1.toNatClampNeg 0)) + ((a 53).getD x1.toNatClampNeg 0)) - (2 * ((a 55).getD x1.toNatClampNeg 0)))), (0, .ref 50), (1, .int x1), (2, .int x2)] [.ref (r 1)] i a18 q r (by rfl) ?_
      refine ko_eq (x1 := (102, [(3, .int (((5 * ((a 52).getD x1.toNatClampNeg 0)) + ((a 53).getD x1.toNatClampNeg 0)) - (2 * ((a 55).getD x1.toNatClampNeg 0)))), (0, .ref 50), (1, .int x1), (2, .int x2)], [.ref 59], (0, 0), ks i a18 q r)) (by rw [eRr_1]) ?_
      refine ft_go mi_k31 2 106 [(3, .int (((5 * ((a 52).getD x1.toNatClampNeg 0)) + ((a 53).getD x1.toNatClampNeg 0)) - (2 * ((a 55).getD x1.toNatClampNeg 0)))), (0, .ref 50), (1, .int x1), (2, .int x2)] [.ref 73, .ref 59] i a18 q r (by rfl) ?_
      refine ko_callI mi_k31.1 (pc := 106) (ls := [(3, .int (((5 * ((a 52).getD x1.toNatClampNeg 0)) + ((a 53).getD x1.toNatClampNeg 0)) - (2 * ((a 55).getD x1.toNatClampNeg 0)))), (0, .ref 50), (1, .int x1), (2, .int x2)]) (st := [.ref 73, .ref 59]) (h := ks i a18 q r) (i := (.invokevirtual 126, 3, 21, 0, 9, 0, 224)) (mi_k31.2 _ _ (by rfl)) (ft_invS mi_pq21 (by rfl)) (cy := mi_c21) mi_pq21 rfl (kc21_59_73 hJ18.I hJ18.R ) (by decide) ?_
      intro vg19 ig19 ag19 qg19 rg19 kg19 hg19
      have hGg19 := kG_call hJ18 kg19 (by decide +kernel)
      have eRrg19_1 : rg19 1 = 59 := (kg19.fr 1 rfl).trans eRr_1
      refine ft_go mi_k31 4 114 [(3, .int vg19), (0, .ref 50), (1, .int x1), (2, .int x2)] [.int vg19, .int 99, .int 0] ig19 ag19 qg19 rg19 (by rfl) ?_
      have m21 : (((bif decide (vg19 < 99) then vg19 else 99).toInt ≤ (99 : Int32).toInt) ∧ ((bif decide (vg19 < 99) then vg19 else 99).toInt ≤ vg19.toInt)) ∧ ((bif decide (vg19 < 99) then vg19 else 99).toInt = (99 : Int32).toInt ∨ (bif decide (vg19 < 99) then vg19 else 99).toInt = vg19.toInt) := kd_min
      refine ft_go mi_k31 1 117 [(3, .int vg19), (0, .ref 50), (1, .int x1), (2, .int x2)] [.int (bif decide (vg19 < 99) then vg19 else 99), .int 0] ig19 ag19 qg19 rg19 (by rfl) ?_
      generalize (bif decide (vg19 < 99) then vg19 else 99) = m20 at m21 ⊢
      have m23 : (((0 : Int32).toInt ≤ (bif decide (0 < m20) then m20 else 0).toInt) ∧ (m20.toInt ≤ (bif decide (0 < m20) then m20 else 0).toInt)) ∧ ((bif decide (0 < m20) then m20 else 0).toInt = (0 : Int32).toInt ∨ (bif decide (0 < m20) then m20 else 0).toInt = m20.toInt) := kd_max
      refine ft_go mi_k31 1 120 [(3, .int vg19), (0, .ref 50), (1, .int x1), (2, .int x2)] [.int (bif decide (0 < m20) then m20 else 0)] ig19 ag19 qg19 rg19 (by rfl) ?_
      generalize (bif decide (0 < m20) then m20 else 0) = m22 at m23 ⊢
      exact ft_ret mi_k31 (by rfl) (hP m22 _ _ _ _ hGg19 trivial)
  ·
    have eRr_1 : r 1 = 10 := eRr_1
    refine ko_eq (x1 := (29, [(3, .int (((5 * ((a 52).getD x1.toNatClampNeg 0)) + ((a 53).getD x1.toNatClampNeg 0)) - (2 * ((a 55).getD x1.toNatClampNeg 0)))), (0, .ref 50), (1, .int x1), (2, .int x2)], [.ref 10], (0, 0), ks i a q r)) (by rw [eRr_1]) ?_
    refine ft_go mi_k31 1 32 [(3, .int (((5 * ((a 52).getD x1.toNatClampNeg 0)) + ((a 53).getD x1.toNatClampNeg 0)) - (2 * ((a 55).getD x1.toNatClampNeg 0)))), (0, .ref 50), (1, .int x1), (2, .int x2)] [.int (i 640)] i a q r (by rfl) ?_
    refine ft_if mi_k31 ((i 640) == 0) 110 35 [(3, .int (((5 * ((a 52).getD x1.toNatClampNeg 0)) + ((a 53).getD x1.toNatClampNeg 0)) - (2 * ((a 55).getD x1.toNatClampNeg 0)))), (0, .ref 50), (1, .int x1), (2, .int x2)] [] (by rfl) (fun c => ?_) (fun c => ?_)
    ·
      have c24 : (i 640).toInt = (0 : Int32).toInt := kd_eq c; clear c
      refine ft_go mi_k31 3 114 [(3, .int (((5 * ((a 52).getD x1.toNatClampNeg 0)) + ((a 53).getD x1.toNatClampNeg 0)) - (2 * ((a 55).getD x1.toNatClampNeg 0)))), (0, .ref 50), (1, .int x1), (2, .int x2)] [.int (((5 * ((a 52).getD x1.toNatClampNeg 0)) + ((a 53).getD x1.toNatClampNeg 0)) - (2 * ((a 55).getD x1.toNatClampNeg 0))), .int 99, .int 0] i a q r (by rfl) ?_
      have m26 : (((bif decide ((((5 * ((a 52).getD x1.toNatClampNeg 0)) + ((a 53).getD x1.toNatClampNeg 0)) - (2 * ((a 55).getD x1.toNatClampNeg 0))) < 99) then (((5 * ((a 52).getD x1.toNatClampNeg 0)) + ((a 53).getD x1.toNatClampNeg 0)) - (2 * ((a 55).getD x1.toNatClampNeg 0))) else 99).toInt ≤ (99 : Int32).toInt) ∧ ((bif decide ((((5 * ((a 52).getD x1.toNatClampNeg 0)) + ((a 53).getD x1.toNatClampNeg 0)) - (2 * ((a 55).getD x1.toNatClampNeg 0))) < 99) then (((5 * ((a 52).getD x1.toNatClampNeg 0)) + ((a 53).getD x1.toNatClampNeg 0)) - (2 * ((a 55).getD x1.toNatClampNeg 0))) else 99).toInt ≤ (((5 * ((a 52).getD x1.toNatClampNeg 0)) + ((a 53).getD x1.toNatClampNeg 0)) - (2 * ((a 55).getD x1.toNatClampNeg 0))).toInt)) ∧ ((bif decide ((((5 * ((a 52).getD x1.toNatClampNeg 0)) + ((a 53).getD x1.toNatClampNeg 0)) - (2 * ((a 55).getD x1.toNatClampNeg 0))) < 99) then (((5 * ((a 52).getD x1.toNatClampNeg 0)) + ((a 53).getD x1.toNatClampNeg 0)) - (2 * ((a 55).getD x1.toNatClampNeg 0))) else 99).toInt = (99 : Int32).toInt ∨ (bif decide ((((5 * ((a 52).getD x1.toNatClampNeg 0)) + ((a 53).getD x1.toNatClampNeg 0)) - (2 * ((a 55).getD x1.toNatClampNeg 0))) < 99) then (((5 * ((a 52).getD x1.toNatClampNeg 0)) + ((a 53).getD x1.toNatClampNeg 0)) - (2 * ((a 55).getD x1.toNatClampNeg 0))) else 99).toInt = (((5 * ((a 52).getD x1.toNatClampNeg 0)) + ((a 53).getD x1.toNatClampNeg 0)) - (2 * ((a 55).getD x1.toNatClampNeg 0))).toInt) := kd_min
      refine ft_go mi_k31 1 117 [(3, .int (((5 * ((a 52).getD x1.toNatClampNeg 0)) + ((a 53).getD x1.toNatClampNeg 0)) - (2 * ((a 55).getD x1.toNatClampNeg 0)))), (0, .ref 50), (1, .int x1), (2, .int x2)] [.int (bif decide ((((5 * ((a 52).getD x1.toNatClampNeg 0)) + ((a 53).getD x1.toNatClampNeg 0)) - (2 * ((a 55).getD x1.toNatClampNeg 0))) < 99) then (((5 * ((a 52).getD x1.toNatClampNeg 0)) + ((a 53).getD x1.toNatClampNeg 0)) - (2 * ((a 55).getD x1.toNatClampNeg 0))) else 99), .int 0] i a q r (by rfl) ?_
      generalize (bif decide ((((5 * ((a 52).getD x1.toNatClampNeg 0)) + ((a 53).getD x1.toNatClampNeg 0)) - (2 * ((a 55).getD x1.toNatClampNeg 0))) < 99) then (((5 * ((a 52).getD x1.toNatClampNeg 0)) + ((a 53).getD x1.toNatClampNeg 0)) - (2 * ((a 55).getD x1.toNatClampNeg 0))) else 99) = m25 at m26 ⊢
      have m28 : (((0 : Int32).toInt ≤ (bif decide (0 < m25) then m25 else 0).toInt) ∧ (m25.toInt ≤ (bif decide (0 < m25) then m25 else 0).toInt)) ∧ ((bif decide (0 < m25) then m25 else 0).toInt = (0 : Int32).toInt ∨ (bif decide (0 < m25) then m25 else 0).toInt = m25.toInt) := kd_max
      refine ft_go mi_k31 1 120 [(3, .int (((5 * ((a 52).getD x1.toNatClampNeg 0)) + ((a 53).getD x1.toNatClampNeg 0)) - (2 * ((a 55).getD x1.toNatClampNeg 0)))), (0, .ref 50), (1, .int x1), (2, .int x2)] [.int (bif decide (0 < m25) then m25 else 0)] i a q r (by rfl) ?_
      generalize (bif decide (0 < m25) then m25 else 0) = m27 at m28 ⊢
      exact ft_ret mi_k31 (by rfl) (hP m27 _ _ _ _ hG trivial)
    ·
      have c29 : (i 640).toInt ≠ (0 : Int32).toInt := kd_eqF c; clear c
      refine ft_go mi_k31 6 45 [(3, .int (((5 * ((a 52).getD x1.toNatClampNeg 0)) + ((a 53).getD x1.toNatClampNeg 0)) - (2 * ((a 55).getD x1.toNatClampNeg 0)))), (0, .ref 50), (1, .int x1), (2, .int x2)] [.int x1, .ref 52, .int 0, .ref 73] i a q r (by rfl) ?_
      refine ko_iald3 mi_k31.1 (n := 8) (c := 8) (ax := (0, 0, 0, 0, 0)) (mi_k31.2 _ _ (by rfl)) (by rfl) (ksG52 _ _ _ _) (hG.I.2.1 52) rfl (oz3 hp0.1) (oz1032 hp0.2) ?_
      refine ko_iast3 mi_k31.1 (n := 6) (c := 6) (ax := (0, 0, 0, 0, 0)) (mi_k31.2 _ _ (by rfl)) (by rfl) (ksG73 _ _ _ _) (ksA73 _ _ _ _) (hG.I.2.1 73) rfl (oz46 kn0) (oz255 kn0) ?_
      intro a30 ea30 fa30
      have hJ30 := kG_a3 hG 73 rfl ea30 fa30 (kd_bd _)
      refine ft_go mi_k31 4 53 [(3, .int (((5 * ((a 52).getD x1.toNatClampNeg 0)) + ((a 53).getD x1.toNatClampNeg 0)) - (2 * ((a 55).getD x1.toNatClampNeg 0)))), (0, .ref 50), (1, .int x1), (2, .int x2)] [.int x2, .int 1, .ref 73] i a30 q r (by rfl) ?_
      refine ko_iast3 mi_k31.1 (n := 6) (c := 6) (ax := (0, 0, 0, 0, 0)) (mi_k31.2 _ _ (by rfl)) (by rfl) (ksG73 _ _ _ _) (ksA73 _ _ _ _) (hJ30.I.2.1 73) rfl (oz246 kn1) (oz247 kn1) ?_
      intro a31 ea31 fa31
      have hJ31 := kG_a3 hJ30 73 rfl ea31 fa31 (kd_bd _)
      refine ft_go mi_k31 6 64 [(3, .int (((5 * ((a 52).getD x1.toNatClampNeg 0)) + ((a 53).getD x1.toNatClampNeg 0)) - (2 * ((a 55).getD x1.toNatClampNeg 0)))), (0, .ref 50), (1, .int x1), (2, .int x2)] [.int x1, .ref 53, .int 2, .ref 73] i a31 q r (by rfl) ?_
      refine ko_iald3 mi_k31.1 (n := 8) (c := 8) (ax := (0, 0, 0, 0, 0)) (mi_k31.2 _ _ (by rfl)) (by rfl) (ksG53 _ _ _ _) (hJ31.I.2.1 53) rfl (oz3 hp0.1) (oz1032 hp0.2) ?_
      refine ko_iast3 mi_k31.1 (n := 6) (c := 6) (ax := (0, 0, 0, 0, 0)) (mi_k31.2 _ _ (by rfl)) (by rfl) (ksG73 _ _ _ _) (ksA73 _ _ _ _) (hJ31.I.2.1 73) rfl (oz256 kn2) (oz257 kn2) ?_
      intro a32 ea32 fa32
      have hJ32 := kG_a3 hJ31 73 rfl ea32 fa32 (kd_bd _)
      refine ft_go mi_k31 5 75 [(3, .int (((5 * ((a 52).getD x1.toNatClampNeg 0)) + ((a 53).getD x1.toNatClampNeg 0)) - (2 * ((a 55).getD x1.toNatClampNeg 0)))), (0, .ref 50), (1, .int x1), (2, .int x2)] [.int (i 3209), .int 3, .ref 73] i a32 q r (by rfl) ?_
      refine ko_iast3 mi_k31.1 (n := 6) (c := 6) (ax := (0, 0, 0, 0, 0)) (mi_k31.2 _ _ (by rfl)) (by rfl) (ksG73 _ _ _ _) (ksA73 _ _ _ _) (hJ32.I.2.1 73) rfl (oz260 kn3) (oz261 kn3) ?_
      intro a33 ea33 fa33
      have hJ33 := kG_a3 hJ32 73 rfl ea33 fa33 (kd_bd _)
      refine ft_go mi_k31 6 86 [(3, .int (((5 * ((a 52).getD x1.toNatClampNeg 0)) + ((a 53).getD x1.toNatClampNeg 0)) - (2 * ((a 55).getD x1.toNatClampNeg 0)))), (0, .ref 50), (1, .int x1), (2, .int x2)] [.int x1, .ref 55, .int 4, .ref 73] i a33 q r (by rfl) ?_
      refine ko_iald3 mi_k31.1 (n := 8) (c := 8) (ax := (0, 0, 0, 0, 0)) (mi_k31.2 _ _ (by rfl)) (by rfl) (ksG55 _ _ _ _) (hJ33.I.2.1 55) rfl (oz3 hp0.1) (oz1032 hp0.2) ?_
      refine ko_iast3 mi_k31.1 (n := 6) (c := 6) (ax := (0, 0, 0, 0, 0)) (mi_k31.2 _ _ (by rfl)) (by rfl) (ksG73 _ _ _ _) (ksA73 _ _ _ _) (hJ33.I.2.1 73) rfl (oz262 kn4) (oz263 kn4) ?_
      intro a34 ea34 fa34
      have hJ34 := kG_a3 hJ33 73 rfl ea34 fa34 (kd_bd _)
      refine ft_go mi_k31 5 97 [(3, .int (((5 * ((a 52).getD x1.toNatClampNeg 0)) + ((a 53).getD x1.toNatClampNeg 0)) - (2 * ((a 55).getD x1.toNatClampNeg 0)))), (0, .ref 50), (1, .int x1), (2, .int x2)] [.int (i 3208), .int 5, .ref 73] i a34 q r (by rfl) ?_
      refine ko_iast3 mi_k31.1 (n := 6) (c := 6) (ax := (0, 0, 0, 0, 0)) (mi_k31.2 _ _ (by rfl)) (by rfl) (ksG73 _ _ _ _) (ksA73 _ _ _ _) (hJ34.I.2.1 73) rfl (oz264 kn5) (oz265 kn5) ?_
      intro a35 ea35 fa35
      have hJ35 := kG_a3 hJ34 73 rfl ea35 fa35 (kd_bd _)
      refine ft_go mi_k31 2 102 [(3, .int (((5 * ((a 52).getD x1.toNatClampNeg 0)) + ((a 53).getD x1.toNatClampNeg 0)) - (2 * ((a 55).getD x1.toNatClampNeg 0)))), (0, .ref 50), (1, .int x1), (2, .int x2)] [.ref (r 1)] i a35 q r (by rfl) ?_
      refine ko_eq (x1 := (102, [(3, .int (((5 * ((a 52).getD x1.toNatClampNeg 0)) + ((a 53).getD x1.toNatClampNeg 0)) - (2 * ((a 55).getD x1.toNatClampNeg 0)))), (0, .ref 50), (1, .int x1), (2, .int x2)], [.ref 10], (0, 0), ks i a35 q r)) (by rw [eRr_1]) ?_
      refine ft_go mi_k31 2 106 [(3, .int (((5 * ((a 52).getD x1.toNatClampNeg 0)) + ((a 53).getD x1.toNatClampNeg 0)) - (2 * ((a 55).getD x1.toNatClampNeg 0)))), (0, .ref 50), (1, .int x1), (2, .int x2)] [.ref 73, .ref 10] i a35 q r (by rfl) ?_
      refine ko_callI mi_k31.1 (pc := 106) (ls := [(3, .int (((5 * ((a 52).getD x1.toNatClampNeg 0)) + ((a 53).getD x1.toNatClampNeg 0)) - (2 * ((a 55).getD x1.toNatClampNeg 0)))), (0, .ref 50), (1, .int x1), (2, .int x2)]) (st := [.ref 73, .ref 10]) (h := ks i a35 q r) (i := (.invokevirtual 126, 3, 21, 0, 9, 0, 224)) (mi_k31.2 _ _ (by rfl)) (ft_invS mi_pq21 (by rfl)) (cy := mi_c21) mi_pq21 rfl (kc21_10_73 hJ35.I hJ35.R ) (by decide) ?_
      intro vg36 ig36 ag36 qg36 rg36 kg36 hg36
      have hGg36 := kG_call hJ35 kg36 (by decide +kernel)
      have eRrg36_1 : rg36 1 = 10 := (kg36.fr 1 rfl).trans eRr_1
      refine ft_go mi_k31 4 114 [(3, .int vg36), (0, .ref 50), (1, .int x1), (2, .int x2)] [.int vg36, .int 99, .int 0] ig36 ag36 qg36 rg36 (by rfl) ?_
      have m38 : (((bif decide (vg36 < 99) then vg36 else 99).toInt ≤ (99 : Int32).toInt) ∧ ((bif decide (vg36 < 99) then vg36 else 99).toInt ≤ vg36.toInt)) ∧ ((bif decide (vg36 < 99) then vg36 else 99).toInt = (99 : Int32).toInt ∨ (bif decide (vg36 < 99) then vg36 else 99).toInt = vg36.toInt) := kd_min
      refine ft_go mi_k31 1 117 [(3, .int vg36), (0, .ref 50), (1, .int x1), (2, .int x2)] [.int (bif decide (vg36 < 99) then vg36 else 99), .int 0] ig36 ag36 qg36 rg36 (by rfl) ?_
      generalize (bif decide (vg36 < 99) then vg36 else 99) = m37 at m38 ⊢
      have m40 : (((0 : Int32).toInt ≤ (bif decide (0 < m37) then m37 else 0).toInt) ∧ (m37.toInt ≤ (bif decide (0 < m37) then m37 else 0).toInt)) ∧ ((bif decide (0 < m37) then m37 else 0).toInt = (0 : Int32).toInt ∨ (bif decide (0 < m37) then m37 else 0).toInt = m37.toInt) := kd_max
      refine ft_go mi_k31 1 120 [(3, .int vg36), (0, .ref 50), (1, .int x1), (2, .int x2)] [.int (bif decide (0 < m37) then m37 else 0)] ig36 ag36 qg36 rg36 (by rfl) ?_
      generalize (bif decide (0 < m37) then m37 else 0) = m39 at m40 ⊢
      exact ft_ret mi_k31 (by rfl) (hP m39 _ _ _ _ hGg36 trivial)
  ·
    have eRr_1 : r 1 = 100 := eRr_1
    refine ko_eq (x1 := (29, [(3, .int (((5 * ((a 52).getD x1.toNatClampNeg 0)) + ((a 53).getD x1.toNatClampNeg 0)) - (2 * ((a 55).getD x1.toNatClampNeg 0)))), (0, .ref 50), (1, .int x1), (2, .int x2)], [.ref 100], (0, 0), ks i a q r)) (by rw [eRr_1]) ?_
    refine ft_go mi_k31 1 32 [(3, .int (((5 * ((a 52).getD x1.toNatClampNeg 0)) + ((a 53).getD x1.toNatClampNeg 0)) - (2 * ((a 55).getD x1.toNatClampNeg 0)))), (0, .ref 50), (1, .int x1), (2, .int x2)] [.int (i 6400)] i a q r (by rfl) ?_
    refine ft_if mi_k31 ((i 6400) == 0) 110 35 [(3, .int (((5 * ((a 52).getD x1.toNatClampNeg 0)) + ((a 53).getD x1.toNatClampNeg 0)) - (2 * ((a 55).getD x1.toNatClampNeg 0)))), (0, .ref 50), (1, .int x1), (2, .int x2)] [] (by rfl) (fun c => ?_) (fun c => ?_)
    ·
      have c41 : (i 6400).toInt = (0 : Int32).toInt := kd_eq c; clear c
      refine ft_go mi_k31 3 114 [(3, .int (((5 * ((a 52).getD x1.toNatClampNeg 0)) + ((a 53).getD x1.toNatClampNeg 0)) - (2 * ((a 55).getD x1.toNatClampNeg 0)))), (0, .ref 50), (1, .int x1), (2, .int x2)] [.int (((5 * ((a 52).getD x1.toNatClampNeg 0)) + ((a 53).getD x1.toNatClampNeg 0)) - (2 * ((a 55).getD x1.toNatClampNeg 0))), .int 99, .int 0] i a q r (by rfl) ?_
      have m43 : (((bif decide ((((5 * ((a 52).getD x1.toNatClampNeg 0)) + ((a 53).getD x1.toNatClampNeg 0)) - (2 * ((a 55).getD x1.toNatClampNeg 0))) < 99) then (((5 * ((a 52).getD x1.toNatClampNeg 0)) + ((a 53).getD x1.toNatClampNeg 0)) - (2 * ((a 55).getD x1.toNatClampNeg 0))) else 99).toInt ≤ (99 : Int32).toInt) ∧ ((bif decide ((((5 * ((a 52).getD x1.toNatClampNeg 0)) + ((a 53).getD x1.toNatClampNeg 0)) - (2 * ((a 55).getD x1.toNatClampNeg 0))) < 99) then (((5 * ((a 52).getD x1.toNatClampNeg 0)) + ((a 53).getD x1.toNatClampNeg 0)) - (2 * ((a 55).getD x1.toNatClampNeg 0))) else 99).toInt ≤ (((5 * ((a 52).getD x1.toNatClampNeg 0)) + ((a 53).getD x1.toNatClampNeg 0)) - (2 * ((a 55).getD x1.toNatClampNeg 0))).toInt)) ∧ ((bif decide ((((5 * ((a 52).getD x1.toNatClampNeg 0)) + ((a 53).getD x1.toNatClampNeg 0)) - (2 * ((a 55).getD x1.toNatClampNeg 0))) < 99) then (((5 * ((a 52).getD x1.toNatClampNeg 0)) + ((a 53).getD x1.toNatClampNeg 0)) - (2 * ((a 55).getD x1.toNatClampNeg 0))) else 99).toInt = (99 : Int32).toInt ∨ (bif decide ((((5 * ((a 52).getD x1.toNatClampNeg 0)) + ((a 53).getD x1.toNatClampNeg 0)) - (2 * ((a 55).getD x1.toNatClampNeg 0))) < 99) then (((5 * ((a 52).getD x1.toNatClampNeg 0)) + ((a 53).getD x1.toNatClampNeg 0)) - (2 * ((a 55).getD x1.toNatClampNeg 0))) else 99).toInt = (((5 * ((a 52).getD x1.toNatClampNeg 0)) + ((a 53).getD x1.toNatClampNeg 0)) - (2 * ((a 55).getD x1.toNatClampNeg 0))).toInt) := kd_min
      refine ft_go mi_k31 1 117 [(3, .int (((5 * ((a 52).getD x1.toNatClampNeg 0)) + ((a 53).getD x1.toNatClampNeg 0)) - (2 * ((a 55).getD x1.toNatClampNeg 0)))), (0, .ref 50), (1, .int x1), (2, .int x2)] [.int (bif decide ((((5 * ((a 52).getD x1.toNatClampNeg 0)) + ((a 53).getD x1.toNatClampNeg 0)) - (2 * ((a 55).getD x1.toNatClampNeg 0))) < 99) then (((5 * ((a 52).getD x1.toNatClampNeg 0)) + ((a 53).getD x1.toNatClampNeg 0)) - (2 * ((a 55).getD x1.toNatClampNeg 0))) else 99), .int 0] i a q r (by rfl) ?_
      generalize (bif decide ((((5 * ((a 52).getD x1.toNatClampNeg 0)) + ((a 53).getD x1.toNatClampNeg 0)) - (2 * ((a 55).getD x1.toNatClampNeg 0))) < 99) then (((5 * ((a 52).getD x1.toNatClampNeg 0)) + ((a 53).getD x1.toNatClampNeg 0)) - (2 * ((a 55).getD x1.toNatClampNeg 0))) else 99) = m42 at m43 ⊢
      have m45 : (((0 : Int32).toInt ≤ (bif decide (0 < m42) then m42 else 0).toInt) ∧ (m42.toInt ≤ (bif decide (0 < m42) then m42 else 0).toInt)) ∧ ((bif decide (0 < m42) then m42 else 0).toInt = (0 : Int32).toInt ∨ (bif decide (0 < m42) then m42 else 0).toInt = m42.toInt) := kd_max
      refine ft_go mi_k31 1 120 [(3, .int (((5 * ((a 52).getD x1.toNatClampNeg 0)) + ((a 53).getD x1.toNatClampNeg 0)) - (2 * ((a 55).getD x1.toNatClampNeg 0)))), (0, .ref 50), (1, .int x1), (2, .int x2)] [.int (bif decide (0 < m42) then m42 else 0)] i a q r (by rfl) ?_
      generalize (bif decide (0 < m42) then m42 else 0) = m44 at m45 ⊢
      exact ft_ret mi_k31 (by rfl) (hP m44 _ _ _ _ hG trivial)
    ·
      have c46 : (i 6400).toInt ≠ (0 : Int32).toInt := kd_eqF c; clear c
      refine ft_go mi_k31 6 45 [(3, .int (((5 * ((a 52).getD x1.toNatClampNeg 0)) + ((a 53).getD x1.toNatClampNeg 0)) - (2 * ((a 55).getD x1.toNatClampNeg 0)))), (0, .ref 50), (1, .int x1), (2, .int x2)] [.int x1, .ref 52, .int 0, .ref 73] i a q r (by rfl) ?_
      refine ko_iald3 mi_k31.1 (n := 8) (c := 8) (ax := (0, 0, 0, 0, 0)) (mi_k31.2 _ _ (by rfl)) (by rfl) (ksG52 _ _ _ _) (hG.I.2.1 52) rfl (oz3 hp0.1) (oz1032 hp0.2) ?_
      refine ko_iast3 mi_k31.1 (n := 6) (c := 6) (ax := (0, 0, 0, 0, 0)) (mi_k31.2 _ _ (by rfl)) (by rfl) (ksG73 _ _ _ _) (ksA73 _ _ _ _) (hG.I.2.1 73) rfl (oz46 kn0) (oz255 kn0) ?_
      intro a47 ea47 fa47
      have hJ47 := kG_a3 hG 73 rfl ea47 fa47 (kd_bd _)
      refine ft_go mi_k31 4 53 [(3, .int (((5 * ((a 52).getD x1.toNatClampNeg 0)) + ((a 53).getD x1.toNatClampNeg 0)) - (2 * ((a 55).getD x1.toNatClampNeg 0)))), (0, .ref 50), (1, .int x1), (2, .int x2)] [.int x2, .int 1, .ref 73] i a47 q r (by rfl) ?_
      refine ko_iast3 mi_k31.1 (n := 6) (c := 6) (ax := (0, 0, 0, 0, 0)) (mi_k31.2 _ _ (by rfl)) (by rfl) (ksG73 _ _ _ _) (ksA73 _ _ _ _) (hJ47.I.2.1 73) rfl (oz246 kn1) (oz247 kn1) ?_
      intro a48 ea48 fa48
      have hJ48 := kG_a3 hJ47 73 rfl ea48 fa48 (kd_bd _)
      refine ft_go mi_k31 6 64 [(3, .int (((5 * ((a 52).getD x1.toNatClampNeg 0)) + ((a 53).getD x1.toNatClampNeg 0)) - (2 * ((a 55).getD x1.toNatClampNeg 0)))), (0, .ref 50), (1, .int x1), (2, .int x2)] [.int x1, .ref 53, .int 2, .ref 73] i a48 q r (by rfl) ?_
      refine ko_iald3 mi_k31.1 (n := 8) (c := 8) (ax := (0, 0, 0, 0, 0)) (mi_k31.2 _ _ (by rfl)) (by rfl) (ksG53 _ _ _ _) (hJ48.I.2.1 53) rfl (oz3 hp0.1) (oz1032 hp0.2) ?_
      refine ko_iast3 mi_k31.1 (n := 6) (c := 6) (ax := (0, 0, 0, 0, 0)) (mi_k31.2 _ _ (by rfl)) (by rfl) (ksG73 _ _ _ _) (ksA73 _ _ _ _) (hJ48.I.2.1 73) rfl (oz256 kn2) (oz257 kn2) ?_
      intro a49 ea49 fa49
      have hJ49 := kG_a3 hJ48 73 rfl ea49 fa49 (kd_bd _)
      refine ft_go mi_k31 5 75 [(3, .int (((5 * ((a 52).getD x1.toNatClampNeg 0)) + ((a 53).getD x1.toNatClampNeg 0)) - (2 * ((a 55).getD x1.toNatClampNeg 0)))), (0, .ref 50), (1, .int x1), (2, .int x2)] [.int (i 3209), .int 3, .ref 73] i a49 q r (by rfl) ?_
      refine ko_iast3 mi_k31.1 (n := 6) (c := 6) (ax := (0, 0, 0, 0, 0)) (mi_k31.2 _ _ (by rfl)) (by rfl) (ksG73 _ _ _ _) (ksA73 _ _ _ _) (hJ49.I.2.1 73) rfl (oz260 kn3) (oz261 kn3) ?_
      intro a50 ea50 fa50
      have hJ50 := kG_a3 hJ49 73 rfl ea50 fa50 (kd_bd _)
      refine ft_go mi_k31 6 86 [(3, .int (((5 * ((a 52).getD x1.toNatClampNeg 0)) + ((a 53).getD x1.toNatClampNeg 0)) - (2 * ((a 55).getD x1.toNatClampNeg 0)))), (0, .ref 50), (1, .int x1), (2, .int x2)] [.int x1, .ref 55, .int 4, .ref 73] i a50 q r (by rfl) ?_
      refine ko_iald3 mi_k31.1 (n := 8) (c := 8) (ax := (0, 0, 0, 0, 0)) (mi_k31.2 _ _ (by rfl)) (by rfl) (ksG55 _ _ _ _) (hJ50.I.2.1 55) rfl (oz3 hp0.1) (oz1032 hp0.2) ?_
      refine ko_iast3 mi_k31.1 (n := 6) (c := 6) (ax := (0, 0, 0, 0, 0)) (mi_k31.2 _ _ (by rfl)) (by rfl) (ksG73 _ _ _ _) (ksA73 _ _ _ _) (hJ50.I.2.1 73) rfl (oz262 kn4) (oz263 kn4) ?_
      intro a51 ea51 fa51
      have hJ51 := kG_a3 hJ50 73 rfl ea51 fa51 (kd_bd _)
      refine ft_go mi_k31 5 97 [(3, .int (((5 * ((a 52).getD x1.toNatClampNeg 0)) + ((a 53).getD x1.toNatClampNeg 0)) - (2 * ((a 55).getD x1.toNatClampNeg 0)))), (0, .ref 50), (1, .int x1), (2, .int x2)] [.int (i 3208), .int 5, .ref 73] i a51 q r (by rfl) ?_
      refine ko_iast3 mi_k31.1 (n := 6) (c := 6) (ax := (0, 0, 0, 0, 0)) (mi_k31.2 _ _ (by rfl)) (by rfl) (ksG73 _ _ _ _) (ksA73 _ _ _ _) (hJ51.I.2.1 73) rfl (oz264 kn5) (oz265 kn5) ?_
      intro a52 ea52 fa52
      have hJ52 := kG_a3 hJ51 73 rfl ea52 fa52 (kd_bd _)
      refine ft_go mi_k31 2 102 [(3, .int (((5 * ((a 52).getD x1.toNatClampNeg 0)) + ((a 53).getD x1.toNatClampNeg 0)) - (2 * ((a 55).getD x1.toNatClampNeg 0)))), (0, .ref 50), (1, .int x1), (2, .int x2)] [.ref (r 1)] i a52 q r (by rfl) ?_
      refine ko_eq (x1 := (102, [(3, .int (((5 * ((a 52).getD x1.toNatClampNeg 0)) + ((a 53).getD x1.toNatClampNeg 0)) - (2 * ((a 55).getD x1.toNatClampNeg 0)))), (0, .ref 50), (1, .int x1), (2, .int x2)], [.ref 100], (0, 0), ks i a52 q r)) (by rw [eRr_1]) ?_
      refine ft_go mi_k31 2 106 [(3, .int (((5 * ((a 52).getD x1.toNatClampNeg 0)) + ((a 53).getD x1.toNatClampNeg 0)) - (2 * ((a 55).getD x1.toNatClampNeg 0)))), (0, .ref 50), (1, .int x1), (2, .int x2)] [.ref 73, .ref 100] i a52 q r (by rfl) ?_
      refine ko_callI mi_k31.1 (pc := 106) (ls := [(3, .int (((5 * ((a 52).getD x1.toNatClampNeg 0)) + ((a 53).getD x1.toNatClampNeg 0)) - (2 * ((a 55).getD x1.toNatClampNeg 0)))), (0, .ref 50), (1, .int x1), (2, .int x2)]) (st := [.ref 73, .ref 100]) (h := ks i a52 q r) (i := (.invokevirtual 126, 3, 21, 0, 9, 0, 224)) (mi_k31.2 _ _ (by rfl)) (ft_invS mi_pq21 (by rfl)) (cy := mi_c21) mi_pq21 rfl (kc21_100_73 hJ52.I hJ52.R ) (by decide) ?_
      intro vg53 ig53 ag53 qg53 rg53 kg53 hg53
      have hGg53 := kG_call hJ52 kg53 (by decide +kernel)
      have eRrg53_1 : rg53 1 = 100 := (kg53.fr 1 rfl).trans eRr_1
      refine ft_go mi_k31 4 114 [(3, .int vg53), (0, .ref 50), (1, .int x1), (2, .int x2)] [.int vg53, .int 99, .int 0] ig53 ag53 qg53 rg53 (by rfl) ?_
      have m55 : (((bif decide (vg53 < 99) then vg53 else 99).toInt ≤ (99 : Int32).toInt) ∧ ((bif decide (vg53 < 99) then vg53 else 99).toInt ≤ vg53.toInt)) ∧ ((bif decide (vg53 < 99) then vg53 else 99).toInt = (99 : Int32).toInt ∨ (bif decide (vg53 < 99) then vg53 else 99).toInt = vg53.toInt) := kd_min
      refine ft_go mi_k31 1 117 [(3, .int vg53), (0, .ref 50), (1, .int x1), (2, .int x2)] [.int (bif decide (vg53 < 99) then vg53 else 99), .int 0] ig53 ag53 qg53 rg53 (by rfl) ?_
      generalize (bif decide (vg53 < 99) then vg53 else 99) = m54 at m55 ⊢
      have m57 : (((0 : Int32).toInt ≤ (bif decide (0 < m54) then m54 else 0).toInt) ∧ (m54.toInt ≤ (bif decide (0 < m54) then m54 else 0).toInt)) ∧ ((bif decide (0 < m54) then m54 else 0).toInt = (0 : Int32).toInt ∨ (bif decide (0 < m54) then m54 else 0).toInt = m54.toInt) := kd_max
      refine ft_go mi_k31 1 120 [(3, .int vg53), (0, .ref 50), (1, .int x1), (2, .int x2)] [.int (bif decide (0 < m54) then m54 else 0)] ig53 ag53 qg53 rg53 (by rfl) ?_
      generalize (bif decide (0 < m54) then m54 else 0) = m56 at m57 ⊢
      exact ft_ret mi_k31 (by rfl) (hP m56 _ _ _ _ hGg53 trivial)

