theorem kos0 : (0 : Int32).toInt = 0 := by decide
theorem kos24 : (24 : Int32).toInt = 24 := by decide
theorem kos1 : (1 : Int32).toInt = 1 := by decide
theorem os0 {a0 a1 a2 a3 : Int} (h0 : (0 : Int) ≤ a0) (h1 : a1 = a0 ∨ a1 = a2) (h2 : a2 = 24) (h3 : a3 = 1) : (-2147483648 : Int) ≤ a1 - a3 := by omega
theorem os1 {a0 a1 a2 : Int} (h0 : a0 ≤ a1) (h1 : a1 = 24) (h2 : a2 = 1) : a0 - a2 ≤ 2147483647 := by omega
theorem os5 {a0 a1 : Int} (h0 : a0 ≤ a1) (h1 : a0 = 0) : (0 : Int) ≤ a1 := by omega
theorem os6 {a0 a1 a2 a3 a4 : Int} (h0 : a0 ≤ a1) (h1 : a2 = a0 - a3) (h2 : a4 ≤ a2) (h3 : a1 = 24) (h4 : a3 = 1) : a4 < 24 := by omega
theorem os7 {a0 a1 a2 a3 a4 a5 a6 : Int} (h0 : a0 ≤ a1) (h1 : a0 ≤ a2) (h2 : a3 = a0 - a4) (h3 : a5 ≤ a6) (h4 : a6 ≤ a3) (h5 : a2 = 24) (h6 : a4 = 1) (h7 : a5 = 0) : ((0 : Int) ≤ a6) ∧ (a6 < a1) ∧ (a6 < 24) := by omega
theorem os8 {a0 a1 a2 a3 a4 a5 a6 : Int} (h0 : a0 = a1 ∨ a0 = a2) (h1 : a3 = a0 - a4) (h2 : ¬ ((a5 ≤ a6) ∧ (a6 ≤ a3))) (h3 : a2 = 24) (h4 : a4 = 1) (h5 : a5 = 0) : ¬ (((0 : Int) ≤ a6) ∧ (a6 < a1) ∧ (a6 < 24)) := by omega
theorem os9 {a0 a1 a2 a3 : Int} (h0 : (0 : Int) ≤ a0) (h1 : a1 = a2 ∨ a1 = a0) (h2 : a2 = 24) (h3 : a3 = 1) : (-2147483648 : Int) ≤ a1 - a3 := by omega
theorem os10 {a0 a1 a2 a3 a4 a5 a6 : Int} (h0 : a0 ≤ a1) (h1 : a0 ≤ a2) (h2 : a3 = a0 - a4) (h3 : a5 ≤ a6) (h4 : a6 ≤ a3) (h5 : a1 = 24) (h6 : a4 = 1) (h7 : a5 = 0) : ((0 : Int) ≤ a6) ∧ (a6 < a2) ∧ (a6 < 24) := by omega
theorem os11 {a0 a1 a2 a3 a4 a5 a6 : Int} (h0 : a0 = a1 ∨ a0 = a2) (h1 : a3 = a0 - a4) (h2 : ¬ ((a5 ≤ a6) ∧ (a6 ≤ a3))) (h3 : a1 = 24) (h4 : a4 = 1) (h5 : a5 = 0) : ¬ (((0 : Int) ≤ a6) ∧ (a6 < a2) ∧ (a6 < 24)) := by omega
set_option maxRecDepth 100000 in
theorem ke112_0 {i : Nat → Int32} {a : Nat → List Int32} {q : Nat → List Int64} {r : Nat → Nat} (hI : kI i a q) (hr : kr r) (x1 : Int32) : km 3 112 [.ref 0, .int x1] (ks i a q r) (kPI (ks i a q r) (fun v => (True) ∧ ((¬ (((0 : Int) ≤ x1.toInt) ∧ (x1.toInt < (i 6019).toInt) ∧ (x1.toInt < 24)) → v = -1) ∧ (((0 : Int) ≤ x1.toInt) ∧ (x1.toInt < (i 6019).toInt) ∧ (x1.toInt < 24) → v = (a 96).getD x1.toNatClampNeg 0)))) := by
  have hG := kG_self kW0 hI hr
  refine km_ofPI (q := (mi_h112, mi_c112)) rfl (by decide) (Nat.le_of_ble_eq_true rfl) ?_
  intro P hP
  have fi_6019 : ((0 : Int) ≤ (i 6019).toInt) ∧ ((i 6019).toInt ≤ 1000) := hG.I.1 6019
  refine ft_go mi_k112 6 11 [(0, .ref 0), (1, .int x1)] [.int 24, .int (i 6019), .int 0, .int x1] i a q r (by rfl) ?_
  have m2 : (((bif decide (24 < (i 6019)) then 24 else (i 6019)).toInt ≤ (i 6019).toInt) ∧ ((bif decide (24 < (i 6019)) then 24 else (i 6019)).toInt ≤ (24 : Int32).toInt)) ∧ ((bif decide (24 < (i 6019)) then 24 else (i 6019)).toInt = (i 6019).toInt ∨ (bif decide (24 < (i 6019)) then 24 else (i 6019)).toInt = (24 : Int32).toInt) := kd_min
  refine ft_go mi_k112 1 14 [(0, .ref 0), (1, .int x1)] [.int (bif decide (24 < (i 6019)) then 24 else (i 6019)), .int 0, .int x1] i a q r (by rfl) ?_
  generalize hm1 : (bif decide (24 < (i 6019)) then 24 else (i 6019)) = m1 at m2 ⊢
  have qm1 := hm1.symm
  have s3 : (m1 - 1).toInt = m1.toInt - (1 : Int32).toInt := kd_sub (os0 fi_6019.1 m2.2 kos24 kos1) (os1 m2.1.2 kos24 kos1)
  refine ft_go mi_k112 2 16 [(0, .ref 0), (1, .int x1)] [.int (m1 - 1), .int 0, .int x1] i a q r (by rfl) ?_
  refine ko_callPI mi_k112.1 (pc := 16) (ls := [(0, .ref 0), (1, .int x1)]) (st := [.int (m1 - 1), .int 0, .int x1]) (h := ks i a q r) (i := (.invokestatic 74, 3, 120, 0, 9, 0, 152)) (mi_k112.2 _ _ (by rfl)) (ft_invS mi_pq120 (by rfl)) (cy := mi_c120) mi_pq120 rfl (kc120 hG.I hG.R x1 0 (m1 - 1)) (by decide) ?_
  intro vg4 hg4
  rcases hg4 with ⟨eg4, hg4⟩ | ⟨eg4, hg4⟩
  ·
    subst eg4
    have z5 : ((0 : Int32).toInt ≤ x1.toInt) ∧ (x1.toInt ≤ (m1 - 1).toInt) := hg4
    refine ft_go mi_k112 5 30 [(0, .ref 0), (1, .int x1)] [.int x1, .ref 96] i a q r (by rfl) ?_
    refine ko_iald3 mi_k112.1 (n := 24) (c := 24) (ax := (0, 0, 0, 0, 0)) (mi_k112.2 _ _ (by rfl)) (by rfl) (ksG96 _ _ _ _) (hG.I.2.1 96) rfl (os5 z5.1 kos0) (os6 m2.1.2 s3 z5.2 kos24 kos1) ?_
    refine ft_go mi_k112 1 35 [(0, .ref 0), (1, .int x1)] [.int ((a 96).getD x1.toNatClampNeg 0)] i a q r (by rfl) ?_
    exact ft_ret mi_k112 (by rfl) (hP ((a 96).getD x1.toNatClampNeg 0) ⟨trivial, ⟨(fun h => absurd (os7 m2.1.1 m2.1.2 s3 z5.1 z5.2 kos24 kos1 kos0) h), (fun _ => (show ((a 96).getD x1.toNatClampNeg 0) = (a 96).getD x1.toNatClampNeg 0 from (by first | rfl | (simp only [sMn, sMx]; done) | (simp only [sMn, sMx]; rfl))))⟩⟩)
  ·
    subst eg4
    have z6 : ¬ (((0 : Int32).toInt ≤ x1.toInt) ∧ (x1.toInt ≤ (m1 - 1).toInt)) := hg4
    refine ft_go mi_k112 2 35 [(0, .ref 0), (1, .int x1)] [.int (-1)] i a q r (by rfl) ?_
    exact ft_ret mi_k112 (by rfl) (hP (-1) ⟨trivial, ⟨(fun _ => (show ((-1) : Int32) = -1 from (by first | rfl | (simp only [sMn, sMx]; done) | (simp only [sMn, sMx]; rfl)))), (fun h => absurd h (os8 m2.2 s3 z6 kos24 kos1 kos0))⟩⟩)
set_option maxRecDepth 100000 in
theorem ke216_116 {i : Nat → Int32} {a : Nat → List Int32} {q : Nat → List Int64} {r : Nat → Nat} (hI : kI i a q) (hr : kr r) (x1 : Int32) : km 3 216 [.ref 116, .int x1] (ks i a q r) (kPI (ks i a q r) (fun v => (True) ∧ ((¬ (((0 : Int) ≤ x1.toInt) ∧ (x1.toInt < (i 7457).toInt) ∧ (x1.toInt < 24)) → v = -1) ∧ (((0 : Int) ≤ x1.toInt) ∧ (x1.toInt < (i 7457).toInt) ∧ (x1.toInt < 24) → v = (a 135).getD x1.toNatClampNeg 0)))) := by
  have hG := kG_self kW0 hI hr
  refine km_ofPI (q := (mi_h216, mi_c216)) rfl (by decide) (Nat.le_of_ble_eq_true rfl) ?_
  intro P hP
  have fi_7457 : ((0 : Int) ≤ (i 7457).toInt) ∧ ((i 7457).toInt ≤ 1000) := hG.I.1 7457
  refine ft_go mi_k216 5 8 [(0, .ref 116), (1, .int x1)] [.int (i 7457), .int 24, .int 0, .int x1] i a q r (by rfl) ?_
  have m2 : (((bif decide ((i 7457) < 24) then (i 7457) else 24).toInt ≤ (24 : Int32).toInt) ∧ ((bif decide ((i 7457) < 24) then (i 7457) else 24).toInt ≤ (i 7457).toInt)) ∧ ((bif decide ((i 7457) < 24) then (i 7457) else 24).toInt = (24 : Int32).toInt ∨ (bif decide ((i 7457) < 24) then (i 7457) else 24).toInt = (i 7457).toInt) := kd_min
  refine ft_go mi_k216 1 11 [(0, .ref 116), (1, .int x1)] [.int (bif decide ((i 7457) < 24) then (i 7457) else 24), .int 0, .int x1] i a q r (by rfl) ?_
  generalize hm1 : (bif decide ((i 7457) < 24) then (i 7457) else 24) = m1 at m2 ⊢
  have qm1 := hm1.symm
  have s3 : (m1 - 1).toInt = m1.toInt - (1 : Int32).toInt := kd_sub (os9 fi_7457.1 m2.2 kos24 kos1) (os1 m2.1.1 kos24 kos1)
  refine ft_go mi_k216 2 13 [(0, .ref 116), (1, .int x1)] [.int (m1 - 1), .int 0, .int x1] i a q r (by rfl) ?_
  refine ko_callPI mi_k216.1 (pc := 13) (ls := [(0, .ref 116), (1, .int x1)]) (st := [.int (m1 - 1), .int 0, .int x1]) (h := ks i a q r) (i := (.invokestatic 119, 3, 131, 0, 9, 0, 379)) (mi_k216.2 _ _ (by rfl)) (ft_invS mi_pq131 (by rfl)) (cy := mi_c131) mi_pq131 rfl (kc131 hG.I hG.R x1 0 (m1 - 1)) (by decide) ?_
  intro vg4 hg4
  rcases hg4 with ⟨eg4, hg4⟩ | ⟨eg4, hg4⟩
  ·
    subst eg4
    have z5 : ((0 : Int32).toInt ≤ x1.toInt) ∧ (x1.toInt ≤ (m1 - 1).toInt) := hg4
    refine ft_go mi_k216 4 24 [(0, .ref 116), (1, .int x1)] [.int x1, .ref 135] i a q r (by rfl) ?_
    refine ko_iald3 mi_k216.1 (n := 24) (c := 24) (ax := (0, 0, 0, 0, 0)) (mi_k216.2 _ _ (by rfl)) (by rfl) (ksG135 _ _ _ _) (hG.I.2.1 135) rfl (os5 z5.1 kos0) (os6 m2.1.1 s3 z5.2 kos24 kos1) ?_
    refine ft_go mi_k216 1 29 [(0, .ref 116), (1, .int x1)] [.int ((a 135).getD x1.toNatClampNeg 0)] i a q r (by rfl) ?_
    exact ft_ret mi_k216 (by rfl) (hP ((a 135).getD x1.toNatClampNeg 0) ⟨trivial, ⟨(fun h => absurd (os10 m2.1.1 m2.1.2 s3 z5.1 z5.2 kos24 kos1 kos0) h), (fun _ => (show ((a 135).getD x1.toNatClampNeg 0) = (a 135).getD x1.toNatClampNeg 0 from (by first | rfl | (simp only [sMn, sMx]; done) | (simp only [sMn, sMx]; rfl))))⟩⟩)
  ·
    subst eg4
    have z6 : ¬ (((0 : Int32).toInt ≤ x1.toInt) ∧ (x1.toInt ≤ (m1 - 1).toInt)) := hg4
    refine ft_go mi_k216 2 29 [(0, .ref 116), (1, .int x1)] [.int (-1)] i a q r (by rfl) ?_
    exact ft_ret mi_k216 (by rfl) (hP (-1) ⟨trivial, ⟨(fun _ => (show ((-1) : Int32) = -1 from (by first | rfl | (simp only [sMn, sMx]; done) | (simp only [sMn, sMx]; rfl)))), (fun h => absurd h (os11 m2.2 s3 z6 kos24 kos1 kos0))⟩⟩)
