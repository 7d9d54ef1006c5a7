theorem koa0 : (0 : Int32).toInt = 0 := by decide
theorem koa255 : (255 : Int32).toInt = 255 := by decide
theorem koa1 : (1 : Int32).toInt = 1 := by decide
theorem koa120 : (120 : Int32).toInt = 120 := by decide
theorem koam3 : ((-3) : Int32).toInt = (-3) := by decide
theorem koam1 : ((-1) : Int32).toInt = (-1) := by decide
theorem oa3 {a0 a1 : Int} (h0 : a0 ≤ a1) (h1 : a0 = 120) : (((120 : Int) ≤ a1) ∧ (a1 = a1) ∧ (a1 = a1)) ∨ ((a1 < 120) ∧ (a1 = (a1 + 1)) ∧ (a1 = (a1 + 1))) := by omega
theorem oa4 {a0 a1 : Int} (h0 : a0 ≤ a1) (h1 : a0 = 120) : ¬ (a1 < 120) := by omega
theorem oa5 {a0 : Int} (h0 : (0 : Int) ≤ a0) : (0 : Int) ≤ a0 := oz3 h0
theorem oa6 {a0 a1 : Int} (h0 : a0 < a1) (h1 : a1 = 120) : a0 < 120 := oz986 h0 h1
theorem oa7 {a0 a1 : Int} (h0 : (0 : Int) ≤ a0) (h1 : a1 = 1) : (-2147483648 : Int) ≤ a0 + a1 := oz12 h0 h1
theorem oa8 {a0 a1 : Int} (h0 : a0 ≤ 120) (h1 : a1 = 1) : a0 + a1 ≤ 2147483647 := oz192 h0 h1
theorem oa9 {a0 a1 a2 : Int} (h0 : (0 : Int) ≤ a0) (h1 : a1 = a0 + a2) (h2 : a2 = 1) : (0 : Int) ≤ a1 := oz14 h0 h1 h2
theorem oa10 {a0 a1 a2 a3 : Int} (h0 : a0 < a1) (h1 : a2 = a0 + a3) (h2 : a1 = 120) (h3 : a3 = 1) : a2 ≤ 120 := oz987 h0 h1 h2 h3
theorem oa11 {a0 a1 a2 a3 : Int} (h0 : a0 < a1) (h1 : a2 = a0 + a3) (h2 : a1 = 120) (h3 : a3 = 1) : (((120 : Int) ≤ a0) ∧ (a2 = a0) ∧ (a2 = a0)) ∨ ((a0 < 120) ∧ (a2 = (a0 + 1)) ∧ (a2 = (a0 + 1))) := by omega
theorem oa12 {a0 a1 : Int} (h0 : a0 < a1) (h1 : a1 = 120) : ¬ ((120 : Int) ≤ a0) := by omega
theorem oa13 {a0 a1 a2 a3 a4 a5 a6 : Int} (h0 : a0 < a1) (h1 : a2 ≤ a3) (h2 : a3 ≤ a4) (h3 : (((120 : Int) ≤ a0) ∧ (a5 = a0) ∧ (a6 = a0)) ∨ ((a0 < 120) ∧ (a5 = (a0 + 1)) ∧ (a6 = (a0 + 1)))) (h4 : a1 = 120) (h5 : a2 = 0) (h6 : a4 = 255) : ((a5 = (-1)) ∧ (¬ (((0 : Int) ≤ a3) ∧ (a3 ≤ 255))) ∧ (a6 = a0)) ∨ (((0 : Int) ≤ a3) ∧ (a3 ≤ 255) ∧ (((a5 = (-3)) ∧ ((120 : Int) ≤ a0) ∧ (a6 = a0)) ∨ ((a0 < 120) ∧ (a5 = (a0 + 1)) ∧ (a6 = (a0 + 1))))) := by omega
theorem oa14 {a0 a1 a2 a3 a4 : Int} (h0 : a0 < a1) (h1 : a2 ≤ a3) (h2 : a3 ≤ a4) (h3 : a1 = 120) (h4 : a2 = 0) (h5 : a4 = 255) : ¬ (¬ (((0 : Int) ≤ a3) ∧ (a3 ≤ 255) ∧ (a0 < 120))) := by omega
theorem oa15 {a0 a1 a2 a3 a4 a5 : Int} (h0 : a0 ≤ a1) (h1 : a2 ≤ a3) (h2 : a3 ≤ a4) (h3 : a0 = 120) (h4 : a2 = 0) (h5 : a4 = 255) (h6 : a5 = (-3)) : ((a5 = (-1)) ∧ (¬ (((0 : Int) ≤ a3) ∧ (a3 ≤ 255))) ∧ (a1 = a1)) ∨ (((0 : Int) ≤ a3) ∧ (a3 ≤ 255) ∧ (((a5 = (-3)) ∧ ((120 : Int) ≤ a1) ∧ (a1 = a1)) ∨ ((a1 < 120) ∧ (a5 = (a1 + 1)) ∧ (a1 = (a1 + 1))))) := by omega
theorem oa16 {a0 a1 a2 : Int} (h0 : a0 ≤ a1) (h1 : a0 = 120) : ¬ (((0 : Int) ≤ a2) ∧ (a2 ≤ 255) ∧ (a1 < 120)) := by omega
theorem oa17 {a0 a1 a2 a3 a4 : Int} (h0 : ¬ ((a0 ≤ a1) ∧ (a1 ≤ a2))) (h1 : a0 = 0) (h2 : a2 = 255) (h3 : a3 = (-1)) : ((a3 = (-1)) ∧ (¬ (((0 : Int) ≤ a1) ∧ (a1 ≤ 255))) ∧ (a4 = a4)) ∨ (((0 : Int) ≤ a1) ∧ (a1 ≤ 255) ∧ (((a3 = (-3)) ∧ ((120 : Int) ≤ a4) ∧ (a4 = a4)) ∨ ((a4 < 120) ∧ (a3 = (a4 + 1)) ∧ (a4 = (a4 + 1))))) := by omega
theorem oa18 {a0 a1 a2 a3 : Int} (h0 : ¬ ((a0 ≤ a1) ∧ (a1 ≤ a2))) (h1 : a0 = 0) (h2 : a2 = 255) : ¬ (((0 : Int) ≤ a1) ∧ (a1 ≤ 255) ∧ (a3 < 120)) := by omega
theorem oa19 {a0 a1 a2 a3 : Int} (h0 : a0 ≠ a1) (h1 : a0 ≤ 120) (h2 : a2 = a0 + a3) (h3 : a1 = 120) (h4 : a3 = 1) : a2 ≤ 120 := oz193 h0 h1 h2 h3 h4
theorem oa20 {a0 a1 : Int} (h0 : a0 ≠ a1) (h1 : a0 ≤ 120) (h2 : a1 = 120) : a0 < 120 := oz194 h0 h1 h2
theorem oa21 {a0 a1 a2 a3 a4 a5 a6 : Int} (h0 : a0 ≠ a1) (h1 : a0 ≤ 120) (h2 : a2 = a0 + a3) (h3 : a4 ≤ a5) (h4 : a5 ≤ a6) (h5 : a1 = 120) (h6 : a3 = 1) (h7 : a4 = 0) (h8 : a6 = 255) : ((a2 = (-1)) ∧ (¬ (((0 : Int) ≤ a5) ∧ (a5 ≤ 255))) ∧ (a2 = a0)) ∨ (((0 : Int) ≤ a5) ∧ (a5 ≤ 255) ∧ (((a2 = (-3)) ∧ ((120 : Int) ≤ a0) ∧ (a2 = a0)) ∨ ((a0 < 120) ∧ (a2 = (a0 + 1)) ∧ (a2 = (a0 + 1))))) := by omega
theorem oa22 {a0 a1 a2 a3 a4 : Int} (h0 : a0 ≠ a1) (h1 : a0 ≤ 120) (h2 : a2 ≤ a3) (h3 : a3 ≤ a4) (h4 : a1 = 120) (h5 : a2 = 0) (h6 : a4 = 255) : ¬ (¬ (((0 : Int) ≤ a3) ∧ (a3 ≤ 255) ∧ (a0 < 120))) := by omega
theorem oa23 {a0 a1 a2 a3 a4 a5 : Int} (h0 : a0 = a1) (h1 : a2 ≤ a3) (h2 : a3 ≤ a4) (h3 : a1 = 120) (h4 : a2 = 0) (h5 : a4 = 255) (h6 : a5 = (-3)) : ((a5 = (-1)) ∧ (¬ (((0 : Int) ≤ a3) ∧ (a3 ≤ 255))) ∧ (a0 = a0)) ∨ (((0 : Int) ≤ a3) ∧ (a3 ≤ 255) ∧ (((a5 = (-3)) ∧ ((120 : Int) ≤ a0) ∧ (a0 = a0)) ∨ ((a0 < 120) ∧ (a5 = (a0 + 1)) ∧ (a0 = (a0 + 1))))) := by omega
theorem oa24 {a0 a1 a2 : Int} (h0 : a0 = a1) (h1 : a1 = 120) : ¬ (((0 : Int) ≤ a2) ∧ (a2 ≤ 255) ∧ (a0 < 120)) := by omega
def yw42_98 : kW := ([6273], [99], [], [])
set_option maxRecDepth 100000 in
theorem ke42_98 {i : Nat → Int32} {a : Nat → List Int32} {q : Nat → List Int64} {r : Nat → Nat} (hI : kI i a q) (hr : kr r) (x1 : Int32) : km 1 42 [.ref 98, .int x1] (ks i a q r) (kVI yw42_98 i a q r (fun v i1 a1 q1 r1 => ((((120 : Int) ≤ (i 6273).toInt) ∧ (v.toInt = (i 6273).toInt) ∧ ((i1 6273).toInt = (i 6273).toInt)) ∨ (((i 6273).toInt < 120) ∧ (v.toInt = ((i 6273).toInt + 1)) ∧ ((i1 6273).toInt = ((i 6273).toInt + 1)))) ∧ (((i 6273).toInt < 120 → a1 99 = (a 99).set (i 6273).toNatClampNeg x1) ∧ ((120 : Int) ≤ (i 6273).toInt → a1 99 = a 99)))) := by
  have hG := kG_self yw42_98 hI hr
  refine km_ofI (q := (mi_h42, mi_c42)) rfl (by decide) (Nat.le_of_ble_eq_true rfl) ?_
  intro P hP
  have fi_6273 : ((0 : Int) ≤ (i 6273).toInt) ∧ ((i 6273).toInt ≤ 120) := hG.I.1 6273
  refine ft_go mi_k42 3 6 [(0, .ref 98), (1, .int x1)] [.int 120, .int (i 6273)] i a q r (by rfl) ?_
  refine ft_if mi_k42 (decide (120 ≤ (i 6273))) 29 9 [(0, .ref 98), (1, .int x1)] [] (by rfl) (fun c => ?_) (fun c => ?_)
  ·
    have c1 : (120 : Int32).toInt ≤ (i 6273).toInt := kd_le c; clear c
    refine ft_go mi_k42 2 33 [(0, .ref 98), (1, .int x1)] [.int (i 6273)] i a q r (by rfl) ?_
    exact ft_ret mi_k42 (by rfl) (hP (i 6273) _ _ _ _ hG ⟨(oa3 c1 koa120), ⟨(fun h => absurd h (oa4 c1 koa120)), (fun _ => (show a 99 = a 99 from rfl))⟩⟩)
  ·
    have c2 : (i 6273).toInt < (120 : Int32).toInt := kd_leF c; clear c
    refine ft_go mi_k42 5 18 [(0, .ref 98), (1, .int x1)] [.int x1, .int (i 6273), .ref 99] i a q r (by rfl) ?_
    refine ko_iast3 mi_k42.1 (n := 120) (c := 120) (ax := (0, 0, 0, 0, 0)) (mi_k42.2 _ _ (by rfl)) (by rfl) (ksG99 _ _ _ _) (ksA99 _ _ _ _) (hG.I.2.1 99) rfl (oa5 fi_6273.1) (oa6 c2 koa120) ?_
    intro a3 ea3 fa3
    have hJ3 := kG_a3 hG 99 rfl ea3 fa3 (kd_bd _)
    have s4 : ((i 6273) + 1).toInt = (i 6273).toInt + (1 : Int32).toInt := kd_add (oa7 fi_6273.1 koa1) (oa8 fi_6273.2 koa1)
    have hJ5 := kG_i hJ3 6273 rfl (v := ((i 6273) + 1)) ⟨(oa9 fi_6273.1 s4 koa1), (oa10 c2 s4 koa120 koa1)⟩
    refine ft_go mi_k42 8 33 [(0, .ref 98), (1, .int x1)] [.int ((i 6273) + 1)] (ku i 6273 ((i 6273) + 1)) a3 q r (by rfl) ?_
    exact ft_ret mi_k42 (by rfl) (hP ((i 6273) + 1) _ _ _ _ hJ5 ⟨(oa11 c2 s4 koa120 koa1), ⟨(fun _ => (show a3 99 = (a 99).set (i 6273).toNatClampNeg x1 from (by first | rfl | (simp only [ea3, sMn, sMx]; done) | (simp only [ea3, sMn, sMx]; rfl)))), (fun h => absurd h (oa12 c2 koa120))⟩⟩)
def yw85_0 : kW := ([6273], [99], [], [])
set_option maxRecDepth 100000 in
theorem ke85_0 {i : Nat → Int32} {a : Nat → List Int32} {q : Nat → List Int64} {r : Nat → Nat} (hI : kI i a q) (hr : kr r) (x1 : Int32) : km 3 85 [.ref 0, .int x1] (ks i a q r) (kVI yw85_0 i a q r (fun v i1 a1 q1 r1 => (((v.toInt = (-1)) ∧ (¬ (((0 : Int) ≤ x1.toInt) ∧ (x1.toInt ≤ 255))) ∧ ((i1 6273).toInt = (i 6273).toInt)) ∨ (((0 : Int) ≤ x1.toInt) ∧ (x1.toInt ≤ 255) ∧ (((v.toInt = (-3)) ∧ ((120 : Int) ≤ (i 6273).toInt) ∧ ((i1 6273).toInt = (i 6273).toInt)) ∨ (((i 6273).toInt < 120) ∧ (v.toInt = ((i 6273).toInt + 1)) ∧ ((i1 6273).toInt = ((i 6273).toInt + 1)))))) ∧ ((((0 : Int) ≤ x1.toInt) ∧ (x1.toInt ≤ 255) ∧ ((i 6273).toInt < 120) → a1 99 = (a 99).set (i 6273).toNatClampNeg x1) ∧ (¬ (((0 : Int) ≤ x1.toInt) ∧ (x1.toInt ≤ 255) ∧ ((i 6273).toInt < 120)) → a1 99 = a 99)))) := by
  have hG := kG_self yw85_0 hI hr
  refine km_ofI (q := (mi_h85, mi_c85)) rfl (by decide) (Nat.le_of_ble_eq_true rfl) ?_
  intro P hP
  refine ft_go mi_k85 3 5 [(0, .ref 0), (1, .int x1)] [.int 255, .int 0, .int x1] i a q r (by rfl) ?_
  refine ko_callPI mi_k85.1 (pc := 5) (ls := [(0, .ref 0), (1, .int x1)]) (st := [.int 255, .int 0, .int x1]) (h := ks i a q r) (i := (.invokestatic 74, 3, 120, 0, 9, 0, 152)) (mi_k85.2 _ _ (by rfl)) (ft_invS mi_pq120 (by rfl)) (cy := mi_c120) mi_pq120 rfl (kc120 hG.I hG.R x1 0 255) (by decide) ?_
  intro vg1 hg1
  rcases hg1 with ⟨eg1, hg1⟩ | ⟨eg1, hg1⟩
  ·
    subst eg1
    have z2 : ((0 : Int32).toInt ≤ x1.toInt) ∧ (x1.toInt ≤ (255 : Int32).toInt) := hg1
    have fi_6273 : ((0 : Int) ≤ (i 6273).toInt) ∧ ((i 6273).toInt ≤ 120) := hG.I.1 6273
    refine ft_go mi_k85 5 22 [(0, .ref 0), (1, .int x1)] [.int 120, .int (i 6273)] i a q r (by rfl) ?_
    refine ft_if mi_k85 (decide ((i 6273) < 120)) 30 25 [(0, .ref 0), (1, .int x1)] [] (by rfl) (fun c => ?_) (fun c => ?_)
    ·
      have c3 : (i 6273).toInt < (120 : Int32).toInt := kd_lt c; clear c
      refine ft_go mi_k85 3 35 [(0, .ref 0), (1, .int x1)] [.int x1, .ref 98] i a q r (by rfl) ?_
      refine ko_callI mi_k85.1 (pc := 35) (ls := [(0, .ref 0), (1, .int x1)]) (st := [.int x1, .ref 98]) (h := ks i a q r) (i := (.invokevirtual 110, 3, 42, 0, 9, 0, 173)) (mi_k85.2 _ _ (by rfl)) (ft_invS mi_pq42 (by rfl)) (cy := mi_c42) mi_pq42 rfl (ke42_98 hG.I hG.R x1) (by decide) ?_
      intro vg4 ig4 ag4 qg4 rg4 kg4 hg4
      have hGg4 := kG_call hG kg4 (by decide +kernel)
      obtain ⟨hg4, og4⟩ := hg4
      have fig4_6273 : ((0 : Int) ≤ (ig4 6273).toInt) ∧ ((ig4 6273).toInt ≤ 120) := hGg4.I.1 6273
      have z5 : (((120 : Int) ≤ (i 6273).toInt) ∧ (vg4.toInt = (i 6273).toInt) ∧ ((ig4 6273).toInt = (i 6273).toInt)) ∨ (((i 6273).toInt < 120) ∧ (vg4.toInt = ((i 6273).toInt + 1)) ∧ ((ig4 6273).toInt = ((i 6273).toInt + 1))) := hg4
      have q6 : ag4 99 = (a 99).set (i 6273).toNatClampNeg x1 := og4.1 (oa6 c3 koa120)
      exact ft_ret mi_k85 (by rfl) (hP vg4 _ _ _ _ hGg4 ⟨(oa13 c3 z2.1 z2.2 z5 koa120 koa0 koa255), ⟨(fun _ => (show ag4 99 = (a 99).set (i 6273).toNatClampNeg x1 from (by first | rfl | (simp only [q6, sMn, sMx]; done) | (simp only [q6, sMn, sMx]; rfl)))), (fun h => absurd h (oa14 c3 z2.1 z2.2 koa120 koa0 koa255))⟩⟩)
    ·
      have c7 : (120 : Int32).toInt ≤ (i 6273).toInt := kd_ltF c; clear c
      refine ft_go mi_k85 2 38 [(0, .ref 0), (1, .int x1)] [.int (-3)] i a q r (by rfl) ?_
      exact ft_ret mi_k85 (by rfl) (hP (-3) _ _ _ _ hG ⟨(oa15 c7 z2.1 z2.2 koa120 koa0 koa255 koam3), ⟨(fun h => absurd h (oa16 c7 koa120)), (fun _ => (show a 99 = a 99 from rfl))⟩⟩)
  ·
    subst eg1
    have z8 : ¬ (((0 : Int32).toInt ≤ x1.toInt) ∧ (x1.toInt ≤ (255 : Int32).toInt)) := hg1
    refine ft_go mi_k85 2 12 [(0, .ref 0), (1, .int x1)] [.int (-1)] i a q r (by rfl) ?_
    have fi_6273 : ((0 : Int) ≤ (i 6273).toInt) ∧ ((i 6273).toInt ≤ 120) := hG.I.1 6273
    exact ft_ret mi_k85 (by rfl) (hP (-1) _ _ _ _ hG ⟨(oa17 z8 koa0 koa255 koam1), ⟨(fun h => absurd h (oa18 z8 koa0 koa255)), (fun _ => (show a 99 = a 99 from rfl))⟩⟩)
def yw146_116 : kW := ([7429], [119], [], [])
set_option maxRecDepth 100000 in
theorem ke146_116 {i : Nat → Int32} {a : Nat → List Int32} {q : Nat → List Int64} {r : Nat → Nat} (hI : kI i a q) (hr : kr r) (x1 : Int32) : km 3 146 [.ref 116, .int x1] (ks i a q r) (kVI yw146_116 i a q r (fun v i1 a1 q1 r1 => (((v.toInt = (-1)) ∧ (¬ (((0 : Int) ≤ x1.toInt) ∧ (x1.toInt ≤ 255))) ∧ ((i1 7429).toInt = (i 7429).toInt)) ∨ (((0 : Int) ≤ x1.toInt) ∧ (x1.toInt ≤ 255) ∧ (((v.toInt = (-3)) ∧ ((120 : Int) ≤ (i 7429).toInt) ∧ ((i1 7429).toInt = (i 7429).toInt)) ∨ (((i 7429).toInt < 120) ∧ (v.toInt = ((i 7429).toInt + 1)) ∧ ((i1 7429).toInt = ((i 7429).toInt + 1)))))) ∧ ((((0 : Int) ≤ x1.toInt) ∧ (x1.toInt ≤ 255) ∧ ((i 7429).toInt < 120) → a1 119 = (a 119).set (i 7429).toNatClampNeg x1) ∧ (¬ (((0 : Int) ≤ x1.toInt) ∧ (x1.toInt ≤ 255) ∧ ((i 7429).toInt < 120)) → a1 119 = a 119)))) := by
  have hG := kG_self yw146_116 hI hr
  refine km_ofI (q := (mi_h146, mi_c146)) rfl (by decide) (Nat.le_of_ble_eq_true rfl) ?_
  intro P hP
  refine ft_go mi_k146 3 5 [(0, .ref 116), (1, .int x1)] [.int 255, .int 0, .int x1] i a q r (by rfl) ?_
  refine ko_callPI mi_k146.1 (pc := 5) (ls := [(0, .ref 116), (1, .int x1)]) (st := [.int 255, .int 0, .int x1]) (h := ks i a q r) (i := (.invokestatic 119, 3, 131, 0, 9, 0, 379)) (mi_k146.2 _ _ (by rfl)) (ft_invS mi_pq131 (by rfl)) (cy := mi_c131) mi_pq131 rfl (kc131 hG.I hG.R x1 0 255) (by decide) ?_
  intro vg1 hg1
  rcases hg1 with ⟨eg1, hg1⟩ | ⟨eg1, hg1⟩
  ·
    subst eg1
    have z2 : ((0 : Int32).toInt ≤ x1.toInt) ∧ (x1.toInt ≤ (255 : Int32).toInt) := hg1
    have fi_7429 : ((0 : Int) ≤ (i 7429).toInt) ∧ ((i 7429).toInt ≤ 120) := hG.I.1 7429
    refine ft_go mi_k146 4 19 [(0, .ref 116), (1, .int x1)] [.int 120, .int (i 7429)] i a q r (by rfl) ?_
    refine ft_if mi_k146 ((i 7429) != 120) 25 22 [(0, .ref 116), (1, .int x1)] [] (by rfl) (fun c => ?_) (fun c => ?_)
    ·
      have c3 : (i 7429).toInt ≠ (120 : Int32).toInt := kd_ne c; clear c
      have s4 : ((i 7429) + 1).toInt = (i 7429).toInt + (1 : Int32).toInt := kd_add (oa7 fi_7429.1 koa1) (oa8 fi_7429.2 koa1)
      have hJ5 := kG_i hG 7429 rfl (v := ((i 7429) + 1)) ⟨(oa9 fi_7429.1 s4 koa1), (oa19 c3 fi_7429.2 s4 koa120 koa1)⟩
      refine ft_go mi_k146 10 41 [(0, .ref 116), (1, .int x1)] [.int x1, .int (i 7429), .ref 119] (ku i 7429 ((i 7429) + 1)) a q r (by rfl) ?_
      refine ko_iast3 mi_k146.1 (n := 120) (c := 120) (ax := (0, 0, 0, 0, 0)) (mi_k146.2 _ _ (by rfl)) (by rfl) (ksG119 _ _ _ _) (ksA119 _ _ _ _) (hJ5.I.2.1 119) rfl (oa5 fi_7429.1) (oa20 c3 fi_7429.2 koa120) ?_
      intro a6 ea6 fa6
      have hJ6 := kG_a3 hJ5 119 rfl ea6 fa6 (kd_bd _)
      refine ft_go mi_k146 2 46 [(0, .ref 116), (1, .int x1)] [.int ((i 7429) + 1)] (ku i 7429 ((i 7429) + 1)) a6 q r (by rfl) ?_
      exact ft_ret mi_k146 (by rfl) (hP ((i 7429) + 1) _ _ _ _ hJ6 ⟨(oa21 c3 fi_7429.2 s4 z2.1 z2.2 koa120 koa1 koa0 koa255), ⟨(fun _ => (show a6 119 = (a 119).set (i 7429).toNatClampNeg x1 from (by first | rfl | (simp only [ea6, sMn, sMx]; done) | (simp only [ea6, sMn, sMx]; rfl)))), (fun h => absurd h (oa22 c3 fi_7429.2 z2.1 z2.2 koa120 koa0 koa255))⟩⟩)
    ·
      have c7 : (i 7429).toInt = (120 : Int32).toInt := kd_neF c; clear c
      refine ft_go mi_k146 1 24 [(0, .ref 116), (1, .int x1)] [.int (-3)] i a q r (by rfl) ?_
      exact ft_ret mi_k146 (by rfl) (hP (-3) _ _ _ _ hG ⟨(oa23 c7 z2.1 z2.2 koa120 koa0 koa255 koam3), ⟨(fun h => absurd h (oa24 c7 koa120)), (fun _ => (show a 119 = a 119 from rfl))⟩⟩)
  ·
    subst eg1
    have z8 : ¬ (((0 : Int32).toInt ≤ x1.toInt) ∧ (x1.toInt ≤ (255 : Int32).toInt)) := hg1
    refine ft_go mi_k146 2 12 [(0, .ref 116), (1, .int x1)] [.int (-1)] i a q r (by rfl) ?_
    have fi_7429 : ((0 : Int) ≤ (i 7429).toInt) ∧ ((i 7429).toInt ≤ 120) := hG.I.1 7429
    exact ft_ret mi_k146 (by rfl) (hP (-1) _ _ _ _ hG ⟨(oa17 z8 koa0 koa255 koam1), ⟨(fun h => absurd h (oa18 z8 koa0 koa255)), (fun _ => (show a 119 = a 119 from rfl))⟩⟩)
