theorem ktoh0 : (0 : Int32).toInt = 0 := by decide
theorem ktoh1 : (1 : Int32).toInt = 1 := by decide
theorem ktoh60 : (60 : Int32).toInt = 60 := by decide
theorem ktohm1 : ((-1) : Int32).toInt = (-1) := by decide
theorem ktoh12 : (12 : Int32).toInt = 12 := by decide
theorem ktoh10000 : (10000 : Int32).toInt = 10000 := by decide
theorem ktoh100 : (100 : Int32).toInt = 100 := by decide
theorem ktoh30 : (30 : Int32).toInt = 30 := by decide
theorem toh0 {a0 a1 a2 a3 a4 a5 a6 : Int} (h0 : a0 < a1) (h1 : a1 = 0) : ¬ ((0 : Int) ≤ a0 ∧ ((1 : Int) ≤ a2 ∧ a2 ≤ 30) ∧ ((1 : Int) ≤ a3 ∧ a3 ≤ 60) ∧ a4 ≤ 12 ∧ (a5 = -1 ∨ ((0 : Int) ≤ a5 ∧ a5 < a6))) := by omega
theorem toh1 {a0 a1 : Int} (h0 : a0 ≤ a1) (h1 : a0 = 0) : (0 : Int) ≤ a1 := by omega
theorem toh5 {a0 a1 a2 : Int} (h0 : a0 ≤ a1) (h1 : a2 = (a1 / 100)) (h2 : a0 = 0) : (0 : Int) ≤ a2 := by omega
theorem toh6 {a0 a1 a2 a3 a4 a5 a6 : Int} (h0 : a0 < a1) (h1 : a0 = 12) : ¬ ((0 : Int) ≤ a2 ∧ ((1 : Int) ≤ a3 ∧ a3 ≤ 30) ∧ ((1 : Int) ≤ a4 ∧ a4 ≤ 60) ∧ a1 ≤ 12 ∧ (a5 = -1 ∨ ((0 : Int) ≤ a5 ∧ a5 < a6))) := by omega
theorem toh10 {a0 : Int} (h0 : (0 : Int) ≤ a0) : (0 : Int) ≤ a0 := by omega
theorem toh16 {a0 a1 : Int} (h0 : (0 : Int) ≤ a0) (h1 : a1 = 1) : (-2147483648 : Int) ≤ a0 + a1 := by omega
theorem toh18 {a0 a1 a2 : Int} (h0 : (0 : Int) ≤ a0) (h1 : a1 = a0 + a2) (h2 : a2 = 1) : (0 : Int) ≤ a1 := by omega
theorem toh21 {a0 a1 a2 : Int} (h0 : a0 = a1 + a2) (h1 : a2 = 1) : a0 = a1 + 1 := by omega
theorem toh24 {a0 : Int} (h0 : a0 = 0) : (0 : Int) ≤ a0 := by omega
theorem toh25 {a0 : Int} (h0 : a0 = 0) : a0 = 0 := by omega
theorem toh32 {a0 a1 : Int} (h0 : a0 = a1) (h1 : a0 ≠ a1) (h2 : a1 = (-1)) : False := by omega
theorem toh33 {a0 a1 : Int} (h0 : a0 = a1) (h1 : a1 = (-1)) : a0 = -1 := by omega
theorem toh34 {a0 a1 a2 a3 a4 a5 a6 : Int} (h0 : a0 ≤ a1) (h1 : a2 = a3) (h2 : a3 = a4) (h3 : a1 ≤ (a5 / 10000)) (h4 : (a1 = 0) ∨ ((1 : Int) ≤ a2)) (h5 : a0 = (a5 / 10000)) (h6 : a6 ≤ a0) (h7 : a6 = 1) : (0 < a4 → a1 = a0) ∧ (a4 ≤ 0 → a1 = 0) := by omega
theorem toh35 {a0 a1 a2 a3 a4 a5 a6 a7 a8 a9 a10 a11 : Int} (h0 : a0 ≤ a1) (h1 : a2 = a3) (h2 : a4 ≤ a5) (h3 : a6 ≤ a7) (h4 : a7 ≤ a8) (h5 : a6 ≤ a9) (h6 : a9 ≤ a10) (h7 : a1 = 12) (h8 : a3 = (-1)) (h9 : a4 = 0) (h10 : a6 = 1) (h11 : a8 = 60) (h12 : a10 = 30) : (0 : Int) ≤ a5 ∧ ((1 : Int) ≤ a9 ∧ a9 ≤ 30) ∧ ((1 : Int) ≤ a7 ∧ a7 ≤ 60) ∧ a0 ≤ 12 ∧ (a2 = -1 ∨ ((0 : Int) ≤ a2 ∧ a2 < a11)) := by omega
theorem toh36 {a0 a1 a2 a3 a4 a5 : Int} (h0 : a0 ≤ a1) (h1 : a0 = a2) (h2 : a2 = a3) (h3 : (0 : Int) ≤ a4) (h4 : (a4 = 0) ∨ ((1 : Int) ≤ a0)) (h5 : a1 = 0) : (0 < a3 → a4 = a5) ∧ (a3 ≤ 0 → a4 = 0) := by omega
theorem toh37 {a0 a1 : Int} (h0 : a0 ≤ a1) (h1 : a1 ≤ a0) : a0 = a1 := by omega
theorem toh40 {a0 a1 a2 a3 : Int} (h0 : a0 < a1) (h1 : a1 ≤ a2) (h2 : a2 = 30) (h3 : a3 = 1) : a0 + a3 ≤ 2147483647 := by omega
theorem toh41 {a0 a1 a2 a3 a4 : Int} (h0 : a0 < a1) (h1 : a2 = a0 + a3) (h2 : a1 = (a4 / 10000)) (h3 : a3 = 1) : a2 ≤ (a4 / 10000) := by omega
theorem toh42 {a0 a1 a2 a3 a4 : Int} (h0 : a0 < a1) (h1 : a2 = a1) (h2 : a3 = a2) (h3 : a0 = 0) : (a4 = 0) ∨ ((1 : Int) ≤ a3) := by omega
theorem toh43 {a0 a1 a2 a3 a4 : Int} (h0 : a0 = a1) (h1 : a2 = a0) (h2 : a1 = a3) (h3 : a4 = a2) : a4 = a3 := by omega
theorem toh44 {a0 a1 a2 a3 : Int} (h0 : a0 = a1 + a2) (h1 : a2 = 1) : ((a3 / 10000) - a0) < ((a3 / 10000) - a1) := by omega
theorem toh45 {a0 a1 a2 : Int} (h0 : a0 < a1) (h1 : a1 = (a2 / 10000)) : (1 : Int) ≤ ((a2 / 10000) - a0) := by omega
theorem toh46 {a0 a1 a2 : Int} (h0 : a0 < a1) (h1 : a2 = a1) (h2 : a0 = 0) : a2 ≠ 0 := by omega
theorem toh47 {a0 a1 a2 : Int} (h0 : a0 < a1) (h1 : a2 = a1) (h2 : a0 = 0) : (1 : Int) ≤ a2 := by omega
theorem toh48 {a0 a1 : Int} (h0 : a0 ≤ 8) (h1 : (0 : Int) ≤ a1) (h2 : a1 < a0) : ((0 : Int) ≤ a1) ∧ (a1 ≤ 7) := by omega
theorem toh49 {a0 a1 a2 a3 : Int} (h0 : a0 < a1) (h1 : a1 = (a2 % 100)) (h2 : a3 = 1) : a0 + a3 ≤ 2147483647 := by omega
theorem toh50 {a0 a1 a2 a3 : Int} (h0 : a0 < a1) (h1 : a2 = a0 + a3) (h2 : a3 = 1) : a2 ≤ a1 := by omega
theorem toh51 {a0 a1 : Int} (h0 : a0 ≤ a1) : ¬ (a1 < a0) := by omega
theorem toh52 {a0 a1 a2 : Int} (h0 : a0 = a1 + a2) (h1 : a2 = 1) : (100 - a0) < (100 - a1) := by omega
theorem toh53 {a0 a1 a2 : Int} (h0 : a0 < a1) (h1 : a1 = (a2 % 100)) : (1 : Int) ≤ (100 - a0) := by omega
theorem toh70 {a0 a1 a2 a3 : Int} (h0 : a0 < a1) (h1 : a2 = a1) (h2 : a3 = a2) (h3 : a0 = 0) : a3 ≠ 0 := by omega
theorem toh71 {a0 a1 a2 a3 : Int} (h0 : a0 < a1) (h1 : a2 = a1) (h2 : a3 = a2) (h3 : a0 = 0) : (1 : Int) ≤ a3 := by omega
theorem toh72 {a0 a1 a2 a3 a4 a5 : Int} (h0 : a0 = a1) (h1 : a2 = a0) (h2 : a1 = a3) (h3 : a4 = a2) (h4 : a5 = a4) : a5 = a3 := by omega
theorem toh73 {a0 a1 : Int} (h0 : a0 < a1) : a0 < a1 := by omega
theorem toh74 {a0 a1 a2 : Int} (h0 : a0 ≤ a1) (h1 : a0 = 1) (h2 : a2 = 0) : a2 ≤ a1 := by omega
theorem toh75 {a0 a1 a2 : Int} (h0 : a0 = a1) (h1 : a1 = a2) : a0 = a2 := by omega
theorem toh76 {a0 a1 a2 a3 : Int} (h0 : a0 = (a1 / 10000)) (h1 : a2 ≤ a0) (h2 : a2 = 1) (h3 : a3 = 0) : a3 ≤ (a1 / 10000) := by omega
theorem toh77 {a0 a1 : Int} (h0 : a0 = 0) : (a0 = 0) ∨ ((1 : Int) ≤ a1) := by omega
theorem toh78 {a0 a1 : Int} (h0 : a0 = a1) : a0 = a1 := by omega
theorem toh83 {a0 : Int} (h0 : (0 : Int) ≤ a0) : ¬ (a0 = -1) := by omega
theorem toh84 {a0 a1 a2 a3 a4 : Int} (h0 : a0 ≤ a1) (h1 : a1 ≤ (a2 / 10000)) (h2 : a0 = (a2 / 10000)) (h3 : (0 : Int) ≤ a3) (h4 : a3 < a4) : (0 < a4 → a1 = a0) ∧ (a4 ≤ 0 → a1 = 0) := by omega
theorem toh85 {a0 a1 a2 a3 a4 a5 a6 a7 a8 a9 a10 : Int} (h0 : a0 ≤ a1) (h1 : a2 ≤ a3) (h2 : a4 ≤ a5) (h3 : a5 ≤ a6) (h4 : (0 : Int) ≤ a7) (h5 : a7 < a8) (h6 : a4 ≤ a9) (h7 : a9 ≤ a10) (h8 : a1 = 12) (h9 : a2 = 0) (h10 : a4 = 1) (h11 : a6 = 60) (h12 : a10 = 30) : (0 : Int) ≤ a3 ∧ ((1 : Int) ≤ a9 ∧ a9 ≤ 30) ∧ ((1 : Int) ≤ a5 ∧ a5 ≤ 60) ∧ a0 ≤ 12 ∧ (a7 = -1 ∨ ((0 : Int) ≤ a7 ∧ a7 < a8)) := by omega
theorem toh86 {a0 a1 : Int} (h0 : a0 = a1) (h1 : (0 : Int) ≤ a0) (h2 : a1 = (-1)) : False := by omega
theorem toh87 {a0 a1 a2 a3 a4 : Int} (h0 : a0 ≤ a1) (h1 : a0 = a2) (h2 : a2 = a3) (h3 : (0 : Int) ≤ a4) (h4 : a4 < a3) (h5 : a1 = 0) : False := by omega
theorem toh88 {a0 a1 : Int} (h0 : a0 ≤ 8) (h1 : a1 < a0) : a1 < 31 := by omega
theorem toh89 {a0 a1 a2 a3 a4 : Int} (h0 : a0 = a1) (h1 : a2 = a0) (h2 : a3 = a2) (h3 : a1 = a4) : a3 = a4 := by omega
theorem toh90 {a0 a1 a2 a3 a4 a5 : Int} (h0 : a0 = a1) (h1 : a2 = a0) (h2 : a3 = a2) (h3 : a4 = a3) (h4 : a1 = a5) : a4 = a5 := by omega
theorem toh91 {a0 a1 a2 a3 a4 a5 a6 : Int} (h0 : a0 ≠ a1) (h1 : ¬ (((0 : Int) ≤ a0) ∧ (a0 < a2))) (h2 : a1 = (-1)) : ¬ ((0 : Int) ≤ a3 ∧ ((1 : Int) ≤ a4 ∧ a4 ≤ 30) ∧ ((1 : Int) ≤ a5 ∧ a5 ≤ 60) ∧ a6 ≤ 12 ∧ (a0 = -1 ∨ ((0 : Int) ≤ a0 ∧ a0 < a2))) := by omega
theorem toh92 {a0 a1 a2 a3 a4 a5 a6 a7 : Int} (h0 : ¬ ((a0 ≤ a1) ∧ (a1 ≤ a2))) (h1 : a0 = 1) (h2 : a2 = 60) : ¬ ((0 : Int) ≤ a3 ∧ ((1 : Int) ≤ a4 ∧ a4 ≤ 30) ∧ ((1 : Int) ≤ a1 ∧ a1 ≤ 60) ∧ a5 ≤ 12 ∧ (a6 = -1 ∨ ((0 : Int) ≤ a6 ∧ a6 < a7))) := by omega
theorem toh93 {a0 a1 a2 a3 a4 a5 a6 a7 : Int} (h0 : ¬ ((a0 ≤ a1) ∧ (a1 ≤ a2))) (h1 : a0 = 1) (h2 : a2 = 30) : ¬ ((0 : Int) ≤ a3 ∧ ((1 : Int) ≤ a1 ∧ a1 ≤ 30) ∧ ((1 : Int) ≤ a4 ∧ a4 ≤ 60) ∧ a5 ≤ 12 ∧ (a6 = -1 ∨ ((0 : Int) ≤ a6 ∧ a6 < a7))) := by omega
def yzw201_116 : kW := ([7464, 7465, 7466, 7467], [118, 128, 129, 139, 141], [], [])
def yzw201_116_L71 : kW := ([7464, 7465, 7466, 7467], [118, 128, 129, 141], [], [])
def yzw201_116_L91 : kW := ([7464, 7465, 7466, 7467], [118, 128, 129, 141], [], [])
set_option maxRecDepth 100000 in
theorem kz201_116 {i : Nat → Int32} {a : Nat → List Int32} {q : Nat → List Int64} {r : Nat → Nat} (hI : kI i a q) (hr : kr r) (x1 : Int32) (x2 : Int32) (x3 : Int32) (hE_code : kCode i a) : km 11 201 [.ref 116, .int x1, .int x2, .int x3] (ks i a q r) (kVI yzw201_116 i a q r (fun v i1 a1 q1 r1 => (True) ∧ (a1 118 = a 118 ∧ cDw ((0 : Int) ≤ x2.toInt ∧ ((1 : Int) ≤ (x2 / 10000).toInt ∧ (x2 / 10000).toInt ≤ 30) ∧ ((1 : Int) ≤ (x2 / 100 - x2 / 100 / 100 * 100).toInt ∧ (x2 / 100 - x2 / 100 / 100 * 100).toInt ≤ 60) ∧ (x2 - x2 / 100 * 100).toInt ≤ 12 ∧ (x3.toInt = -1 ∨ ((0 : Int) ≤ x3.toInt ∧ x3.toInt < (i 7424).toInt))) v (dV (i 7424) x3 v (gDr (gKn i a) (i 7424) (dRm x2 100) (dRm (x2 / 100) 100).toInt.toNat x3 (a 118) x1 (gR i a)) (x2 / 10000).toInt.toNat)))) := by
  have hG := kG_self yzw201_116 hI hr
  refine km_ofI (q := (mi_h201, mi_c201)) rfl (by decide) (Nat.le_of_ble_eq_true rfl) ?_
  intro P hP
  refine ft_go mi_k201 1 1 [(0, .ref 116), (1, .int x1), (2, .int x2), (3, .int x3)] [.int x2] i a q r (by rfl) ?_
  refine ft_if mi_k201 (decide (x2 < 0)) 56 4 [(0, .ref 116), (1, .int x1), (2, .int x2), (3, .int x3)] [] (by rfl) (fun c => ?_) (fun c => ?_)
  ·
    have c1 : x2.toInt < (0 : Int32).toInt := kd_lt c; clear c
    refine ft_go mi_k201 1 57 [(0, .ref 116), (1, .int x1), (2, .int x2), (3, .int x3)] [.int (-1)] i a q r (by rfl) ?_
    have s2 : 0 ≤ x2.toInt → (x2 / 10000).toInt = (x2.toInt / 10000) := kd_div 10000 ktoh10000 (by decide)
    have s3 : 0 ≤ x2.toInt → (x2 / 100).toInt = (x2.toInt / 100) := kd_div 100 ktoh100 (by decide)
    have s4 : 0 ≤ (x2 / 100).toInt → ((x2 / 100) - (x2 / 100) / 100 * 100).toInt = ((x2 / 100).toInt % 100) := kd_rem 100 ktoh100 (by decide)
    have s5 : 0 ≤ x2.toInt → (x2 - x2 / 100 * 100).toInt = (x2.toInt % 100) := kd_rem 100 ktoh100 (by decide)
    have fi_7424 : ((0 : Int) ≤ (i 7424).toInt) ∧ ((i 7424).toInt ≤ 8) := hG.I.1 7424
    exact ft_ret mi_k201 (by rfl) (hP (-1) _ _ _ _ hG ⟨trivial, ⟨(show a 118 = a 118 from rfl), (Or.inl ⟨(toh0 c1 ktoh0), rfl⟩)⟩⟩)
  ·
    have c6 : (0 : Int32).toInt ≤ x2.toInt := kd_ltF c; clear c
    have s7 : (x2 / 10000).toInt = (x2.toInt / 10000) := kd_div 10000 ktoh10000 (by decide) (toh1 c6 ktoh0)
    refine ft_go mi_k201 5 12 [(0, .ref 116), (1, .int x1), (2, .int x2), (3, .int x3)] [.int 30, .int 1, .int (x2 / 10000)] i a q r (by rfl) ?_
    refine ko_callPI mi_k201.1 (pc := 12) (ls := [(0, .ref 116), (1, .int x1), (2, .int x2), (3, .int x3)]) (st := [.int 30, .int 1, .int (x2 / 10000)]) (h := ks i a q r) (i := (.invokestatic 119, 3, 131, 0, 9, 0, 379)) (mi_k201.2 _ _ (by rfl)) (ft_invS mi_pq131 (by rfl)) (cy := mi_c131) mi_pq131 rfl (kc131 hG.I hG.R (x2 / 10000) 1 30) (by decide) ?_
    intro vg8 hg8
    rcases hg8 with ⟨eg8, hg8⟩ | ⟨eg8, hg8⟩
    ·
      subst eg8
      have z9 : ((1 : Int32).toInt ≤ (x2 / 10000).toInt) ∧ ((x2 / 10000).toInt ≤ (30 : Int32).toInt) := hg8
      have s10 : (x2 / 100).toInt = (x2.toInt / 100) := kd_div 100 ktoh100 (by decide) (toh1 c6 ktoh0)
      have s11 : ((x2 / 100) - (x2 / 100) / 100 * 100).toInt = ((x2 / 100).toInt % 100) := kd_rem 100 ktoh100 (by decide) (toh5 c6 s10 ktoh0)
      refine ft_go mi_k201 8 28 [(0, .ref 116), (1, .int x1), (2, .int x2), (3, .int x3)] [.int 60, .int 1, .int ((x2 / 100) - (x2 / 100) / 100 * 100)] i a q r (by rfl) ?_
      refine ko_callPI mi_k201.1 (pc := 28) (ls := [(0, .ref 116), (1, .int x1), (2, .int x2), (3, .int x3)]) (st := [.int 60, .int 1, .int ((x2 / 100) - (x2 / 100) / 100 * 100)]) (h := ks i a q r) (i := (.invokestatic 119, 3, 131, 0, 9, 0, 379)) (mi_k201.2 _ _ (by rfl)) (ft_invS mi_pq131 (by rfl)) (cy := mi_c131) mi_pq131 rfl (kc131 hG.I hG.R ((x2 / 100) - (x2 / 100) / 100 * 100) 1 60) (by decide) ?_
      intro vg12 hg12
      rcases hg12 with ⟨eg12, hg12⟩ | ⟨eg12, hg12⟩
      ·
        subst eg12
        have z13 : ((1 : Int32).toInt ≤ ((x2 / 100) - (x2 / 100) / 100 * 100).toInt) ∧ (((x2 / 100) - (x2 / 100) / 100 * 100).toInt ≤ (60 : Int32).toInt) := hg12
        have s14 : (x2 - x2 / 100 * 100).toInt = (x2.toInt % 100) := kd_rem 100 ktoh100 (by decide) (toh1 c6 ktoh0)
        refine ft_go mi_k201 5 40 [(0, .ref 116), (1, .int x1), (2, .int x2), (3, .int x3)] [.int 12, .int (x2 - x2 / 100 * 100)] i a q r (by rfl) ?_
        refine ft_if mi_k201 (decide (12 < (x2 - x2 / 100 * 100))) 56 43 [(0, .ref 116), (1, .int x1), (2, .int x2), (3, .int x3)] [] (by rfl) (fun c => ?_) (fun c => ?_)
        ·
          have c15 : (12 : Int32).toInt < (x2 - x2 / 100 * 100).toInt := kd_lt c; clear c
          refine ft_go mi_k201 1 57 [(0, .ref 116), (1, .int x1), (2, .int x2), (3, .int x3)] [.int (-1)] i a q r (by rfl) ?_
          have fi_7424 : ((0 : Int) ≤ (i 7424).toInt) ∧ ((i 7424).toInt ≤ 8) := hG.I.1 7424
          exact ft_ret mi_k201 (by rfl) (hP (-1) _ _ _ _ hG ⟨trivial, ⟨(show a 118 = a 118 from rfl), (Or.inl ⟨(toh6 c15 ktoh12), rfl⟩)⟩⟩)
        ·
          have c16 : (x2 - x2 / 100 * 100).toInt ≤ (12 : Int32).toInt := kd_ltF c; clear c
          refine ft_go mi_k201 2 45 [(0, .ref 116), (1, .int x1), (2, .int x2), (3, .int x3)] [.int (-1), .int x3] i a q r (by rfl) ?_
          refine ft_if mi_k201 (x3 == (-1)) 58 48 [(0, .ref 116), (1, .int x1), (2, .int x2), (3, .int x3)] [] (by rfl) (fun c => ?_) (fun c => ?_)
          ·
            have c17 : x3.toInt = ((-1) : Int32).toInt := kd_eq c; clear c
            refine ft_go mi_k201 1 59 [(0, .ref 116), (1, .int x1), (2, .int x2), (3, .int x3)] [.ref 116] i a q r (by rfl) ?_
            refine ko_callN mi_k201.1 (pc := 59) (ls := [(0, .ref 116), (1, .int x1), (2, .int x2), (3, .int x3)]) (st := [.ref 116]) (h := ks i a q r) (i := (.invokevirtual 267, 3, 171, 0, 9, 0, 412)) (mi_k201.2 _ _ (by rfl)) (ft_invS mi_pq171 (by rfl)) (cy := mi_c171) mi_pq171 rfl (kg171_116 hG.I hG.R ) (by decide) ?_
            intro ig18 ag18 qg18 rg18 kg18 hg18
            have hGg18 := kG_call hG kg18 (by decide +kernel)
            obtain ⟨hg18, og18⟩ := hg18
            have tG19 : gT ig18 ag18 = gR i a := (gT_R (og18.2.1.trans rfl) (kg18.fi 7464 rfl) (kg18.fi 7465 rfl) (kg18.fi 7466 rfl) og18.2.2.1 og18.2.2.2)
            have q20 : ag18 139 = a 118 := og18.1
            have q21 : ag18 118 = a 118 := og18.2.1
            have q22 : ig18 7467 = 0 := og18.2.2.1
            have q23 : ag18 141 = List.replicate 64 0 := og18.2.2.2
            refine ft_go mi_k201 6 71 [(6, .int 0), (5, .int 0), (4, .int x1), (0, .ref 116), (1, .int x1), (2, .int x2), (3, .int x3)] [] ig18 ag18 qg18 rg18 (by rfl) ?_
            have lp24 : ∀ (nz : Nat) (i24 : Nat → Int32) (a24 : Nat → List Int32) (q24 : Nat → List Int64) (r24 : Nat → Nat) (l6_24 : Int32) (l5_24 : Int32) (l4_24 : Int32), kG yzw201_116_L71 ig18 ag18 qg18 rg18 i24 a24 q24 r24 → (0 : Int) ≤ l6_24.toInt → l6_24.toInt ≤ (x2.toInt / 10000) → (l6_24.toInt = 0) ∨ ((1 : Int) ≤ (i24 7424).toInt) → (i24 7424).toInt = (i 7424).toInt → l4_24 = (gDr (gKn i a) (i 7424) (dRm x2 100) (dRm (x2 / 100) 100).toInt.toNat x3 (a 118) x1 (gR i a) l6_24.toInt.toNat).2.1 → l5_24 = (gDr (gKn i a) (i 7424) (dRm x2 100) (dRm (x2 / 100) 100).toInt.toNat x3 (a 118) x1 (gR i a) l6_24.toInt.toNat).1 → gT i24 a24 = (gDr (gKn i a) (i 7424) (dRm x2 100) (dRm (x2 / 100) 100).toInt.toNat x3 (a 118) x1 (gR i a) l6_24.toInt.toNat).2.2 → a24 118 = a 118 → a24 139 = a 118 → (((x2.toInt / 10000) - l6_24.toInt)).toNat < nz → ko 11 (mi_h201, mi_c201) P (71, [(6, .int l6_24), (5, .int l5_24), (4, .int l4_24), (0, .ref 116), (1, .int x1), (2, .int x2), (3, .int x3)], [], (0, 0), ks i24 a24 q24 r24) := by
              intro nz
              induction nz with
              | zero =>
                intro _ _ _ _ _ _ _ _ _ _ _ _ _ _ _ _ _ hm
                exact absurd hm (Nat.not_lt_zero _)
              | succ nz ih24 =>
                intro i24 a24 q24 r24 l6_24 l5_24 l4_24 hL24 p24_0 p24_1 p24_2 p24_3 O24_0 O24_1 O24_2 O24_3 O24_4 hm24
                have fi24_7424 : ((0 : Int) ≤ (i24 7424).toInt) ∧ ((i24 7424).toInt ≤ 8) := hL24.I.1 7424
                have fig18_7424 : ((0 : Int) ≤ (ig18 7424).toInt) ∧ ((ig18 7424).toInt ≤ 8) := hGg18.I.1 7424
                have fi_7424 : ((0 : Int) ≤ (i 7424).toInt) ∧ ((i 7424).toInt ≤ 8) := hG.I.1 7424
                have efig18_7424 : (ig18 7424).toInt = (i 7424).toInt := kg18.ti 7424 rfl
                have efi24_7424 : (i24 7424).toInt = (ig18 7424).toInt := hL24.ti 7424 rfl
                refine ft_go mi_k201 4 78 [(6, .int l6_24), (5, .int l5_24), (4, .int l4_24), (0, .ref 116), (1, .int x1), (2, .int x2), (3, .int x3)] [.int (x2 / 10000), .int l6_24] i24 a24 q24 r24 (by rfl) ?_
                refine ft_if mi_k201 (decide ((x2 / 10000) ≤ l6_24)) 186 81 [(6, .int l6_24), (5, .int l5_24), (4, .int l4_24), (0, .ref 116), (1, .int x1), (2, .int x2), (3, .int x3)] [] (by rfl) (fun c => ?_) (fun c => ?_)
                ·
                  have c25 : (x2 / 10000).toInt ≤ l6_24.toInt := kd_le c; clear c
                  have hG26 := kG_call hGg18 hL24 (by decide +kernel)
                  refine ft_go mi_k201 2 188 [(6, .int l6_24), (5, .int l5_24), (4, .int l4_24), (0, .ref 116), (1, .int x1), (2, .int x2), (3, .int x3)] [.int (-1), .int x3] i24 a24 q24 r24 (by rfl) ?_
                  refine ft_if mi_k201 (x3 != (-1)) 198 191 [(6, .int l6_24), (5, .int l5_24), (4, .int l4_24), (0, .ref 116), (1, .int x1), (2, .int x2), (3, .int x3)] [] (by rfl) (fun c => ?_) (fun c => ?_)
                  ·
                    have c27 : x3.toInt ≠ ((-1) : Int32).toInt := kd_ne c; clear c
                    exact (toh32 c17 c27 ktohm1).elim
                  ·
                    have c28 : x3.toInt = ((-1) : Int32).toInt := kd_neF c; clear c
                    refine ft_go mi_k201 3 200 [(6, .int l6_24), (5, .int l5_24), (4, .int l4_24), (0, .ref 116), (1, .int x1), (2, .int x2), (3, .int x3)] [.int (i24 7467)] i24 a24 q24 r24 (by rfl) ?_
                    exact ft_ret mi_k201 (by rfl) (hP (i24 7467) _ _ _ _ hG26 ⟨trivial, ⟨(show a24 118 = a 118 from (by first | rfl | (simp only [O24_3, sMn, sMx]; done) | (simp only [O24_3, sMn, sMx]; rfl))), (Or.inr ⟨(toh35 c16 c17 c6 z13.1 z13.2 z9.1 z9.2 ktoh12 ktohm1 ktoh0 ktoh1 ktoh60 ktoh30), dV_end (toh34 c25 efi24_7424 efig18_7424 p24_1 p24_2 s7 z9.1 ktoh1) (dV_la (toh33 c17 ktohm1) (gT_la O24_2))⟩)⟩⟩)
                ·
                  have c29 : l6_24.toInt < (x2 / 10000).toInt := kd_leF c; clear c
                  refine ft_go mi_k201 2 85 [(6, .int l6_24), (5, .int l5_24), (4, .int l4_24), (0, .ref 116), (1, .int x1), (2, .int x2), (3, .int x3)] [.int (i24 7424)] i24 a24 q24 r24 (by rfl) ?_
                  refine ft_if mi_k201 (decide ((i24 7424) ≤ 0)) 186 88 [(6, .int l6_24), (5, .int l5_24), (4, .int l4_24), (0, .ref 116), (1, .int x1), (2, .int x2), (3, .int x3)] [] (by rfl) (fun c => ?_) (fun c => ?_)
                  ·
                    have c30 : (i24 7424).toInt ≤ (0 : Int32).toInt := kd_le c; clear c
                    have hG31 := kG_call hGg18 hL24 (by decide +kernel)
                    refine ft_go mi_k201 2 188 [(6, .int l6_24), (5, .int l5_24), (4, .int l4_24), (0, .ref 116), (1, .int x1), (2, .int x2), (3, .int x3)] [.int (-1), .int x3] i24 a24 q24 r24 (by rfl) ?_
                    refine ft_if mi_k201 (x3 != (-1)) 198 191 [(6, .int l6_24), (5, .int l5_24), (4, .int l4_24), (0, .ref 116), (1, .int x1), (2, .int x2), (3, .int x3)] [] (by rfl) (fun c => ?_) (fun c => ?_)
                    ·
                      have c32 : x3.toInt ≠ ((-1) : Int32).toInt := kd_ne c; clear c
                      exact (toh32 c17 c32 ktohm1).elim
                    ·
                      have c33 : x3.toInt = ((-1) : Int32).toInt := kd_neF c; clear c
                      refine ft_go mi_k201 3 200 [(6, .int l6_24), (5, .int l5_24), (4, .int l4_24), (0, .ref 116), (1, .int x1), (2, .int x2), (3, .int x3)] [.int (i24 7467)] i24 a24 q24 r24 (by rfl) ?_
                      exact ft_ret mi_k201 (by rfl) (hP (i24 7467) _ _ _ _ hG31 ⟨trivial, ⟨(show a24 118 = a 118 from (by first | rfl | (simp only [O24_3, sMn, sMx]; done) | (simp only [O24_3, sMn, sMx]; rfl))), (Or.inr ⟨(toh35 c16 c17 c6 z13.1 z13.2 z9.1 z9.2 ktoh12 ktohm1 ktoh0 ktoh1 ktoh60 ktoh30), dV_end (toh36 c30 efi24_7424 efig18_7424 p24_0 p24_2 ktoh0) (dV_la (toh33 c17 ktohm1) (gT_la O24_2))⟩)⟩⟩)
                  ·
                    have c34 : (0 : Int32).toInt < (i24 7424).toInt := kd_leF c; clear c
                    refine ft_go mi_k201 2 91 [(7, .int 0), (6, .int l6_24), (5, .int l5_24), (4, .int l4_24), (0, .ref 116), (1, .int x1), (2, .int x2), (3, .int x3)] [] i24 a24 q24 r24 (by rfl) ?_
                    have lp35 : ∀ (nz : Nat) (i35 : Nat → Int32) (a35 : Nat → List Int32) (q35 : Nat → List Int64) (r35 : Nat → Nat) (l7_35 : Int32) (l4_35 : Int32), kG yzw201_116_L91 i24 a24 q24 r24 i35 a35 q35 r35 → (0 : Int) ≤ l7_35.toInt → l7_35.toInt ≤ ((x2 / 100) - (x2 / 100) / 100 * 100).toInt → (i35 7424).toInt = (i 7424).toInt → l4_35 = (gDm (gKn i a) (i 7424) (dRm x2 100) (gDr (gKn i a) (i 7424) (dRm x2 100) (dRm (x2 / 100) 100).toInt.toNat x3 (a 118) x1 (gR i a) l6_24.toInt.toNat).2 l7_35.toInt.toNat).1 → gT i35 a35 = (gDm (gKn i a) (i 7424) (dRm x2 100) (gDr (gKn i a) (i 7424) (dRm x2 100) (dRm (x2 / 100) 100).toInt.toNat x3 (a 118) x1 (gR i a) l6_24.toInt.toNat).2 l7_35.toInt.toNat).2 → a35 139 = a 118 → ((100 - l7_35.toInt)).toNat < nz → ko 11 (mi_h201, mi_c201) P (91, [(7, .int l7_35), (6, .int l6_24), (5, .int l5_24), (4, .int l4_35), (0, .ref 116), (1, .int x1), (2, .int x2), (3, .int x3)], [], (0, 0), ks i35 a35 q35 r35) := by
                      intro nz
                      induction nz with
                      | zero =>
                        intro _ _ _ _ _ _ _ _ _ _ _ _ _ hm
                        exact absurd hm (Nat.not_lt_zero _)
                      | succ nz ih35 =>
                        intro i35 a35 q35 r35 l7_35 l4_35 hL35 p35_0 p35_1 p35_2 O35_0 O35_1 O35_2 hm35
                        have fi35_7424 : ((0 : Int) ≤ (i35 7424).toInt) ∧ ((i35 7424).toInt ≤ 8) := hL35.I.1 7424
                        have efi35_7424 : (i35 7424).toInt = (i24 7424).toInt := hL35.ti 7424 rfl
                        refine ft_go mi_k201 6 100 [(7, .int l7_35), (6, .int l6_24), (5, .int l5_24), (4, .int l4_35), (0, .ref 116), (1, .int x1), (2, .int x2), (3, .int x3)] [.int ((x2 / 100) - (x2 / 100) / 100 * 100), .int l7_35] i35 a35 q35 r35 (by rfl) ?_
                        refine ft_if mi_k201 (decide (((x2 / 100) - (x2 / 100) / 100 * 100) ≤ l7_35)) 155 103 [(7, .int l7_35), (6, .int l6_24), (5, .int l5_24), (4, .int l4_35), (0, .ref 116), (1, .int x1), (2, .int x2), (3, .int x3)] [] (by rfl) (fun c => ?_) (fun c => ?_)
                        ·
                          have c38 : ((x2 / 100) - (x2 / 100) / 100 * 100).toInt ≤ l7_35.toInt := kd_le c; clear c
                          have hG39 := kG_call hL24 hL35 (by decide +kernel)
                          have zD40 : l4_35 = (gDm (gKn i a) (i 7424) (dRm x2 100) (gDr (gKn i a) (i 7424) (dRm x2 100) (dRm (x2 / 100) 100).toInt.toNat x3 (a 118) x1 (gR i a) l6_24.toInt.toNat).2 (dRm (x2 / 100) 100).toInt.toNat).1 := O35_0.trans (congrArg (fun j : Nat => (gDm (gKn i a) (i 7424) (dRm x2 100) (gDr (gKn i a) (i 7424) (dRm x2 100) (dRm (x2 / 100) 100).toInt.toNat x3 (a 118) x1 (gR i a) l6_24.toInt.toNat).2 j).1) (congrArg Int.toNat (toh37 c38 p35_1))).symm
                          have tG41 : gT i35 a35 = (gDm (gKn i a) (i 7424) (dRm x2 100) (gDr (gKn i a) (i 7424) (dRm x2 100) (dRm (x2 / 100) 100).toInt.toNat x3 (a 118) x1 (gR i a) l6_24.toInt.toNat).2 (dRm (x2 / 100) 100).toInt.toNat).2 := (gT_c O35_1 (congrArg (fun j : Nat => (gDm (gKn i a) (i 7424) (dRm x2 100) (gDr (gKn i a) (i 7424) (dRm x2 100) (dRm (x2 / 100) 100).toInt.toNat x3 (a 118) x1 (gR i a) l6_24.toInt.toNat).2 j).2) (congrArg Int.toNat (toh37 c38 p35_1))))
                          refine ft_go mi_k201 2 157 [(7, .int l7_35), (6, .int l6_24), (5, .int l5_24), (4, .int l4_35), (0, .ref 116), (1, .int x1), (2, .int x2), (3, .int x3)] [.int (-1), .int x3] i35 a35 q35 r35 (by rfl) ?_
                          refine ft_if mi_k201 (x3 == (-1)) 171 160 [(7, .int l7_35), (6, .int l6_24), (5, .int l5_24), (4, .int l4_35), (0, .ref 116), (1, .int x1), (2, .int x2), (3, .int x3)] [] (by rfl) (fun c => ?_) (fun c => ?_)
                          ·
                            have c42 : x3.toInt = ((-1) : Int32).toInt := kd_eq c; clear c
                            refine ft_go mi_k201 4 177 [(7, .int l7_35), (6, .int l6_24), (5, .int l5_24), (4, .int l4_35), (0, .ref 116), (1, .int x1), (2, .int x2), (3, .int x3)] [.int 0, .ref 139, .ref 116] i35 a35 q35 r35 (by rfl) ?_
                            refine ko_callN mi_k201.1 (pc := 177) (ls := [(7, .int l7_35), (6, .int l6_24), (5, .int l5_24), (4, .int l4_35), (0, .ref 116), (1, .int x1), (2, .int x2), (3, .int x3)]) (st := [.int 0, .ref 139, .ref 116]) (h := ks i35 a35 q35 r35) (i := (.invokevirtual 273, 3, 169, 0, 9, 0, 423)) (mi_k201.2 _ _ (by rfl)) (ft_invS mi_pq169 (by rfl)) (cy := mi_c169) mi_pq169 rfl (ke169_116_139 hG39.I hG39.R 0 (toh25 ktoh0)) (by decide) ?_
                            intro ig43 ag43 qg43 rg43 kg43 hg43
                            have hGg43 := kG_call hG39 kg43 (by decide +kernel)
                            obtain ⟨hg43, og43⟩ := hg43
                            have tG44 : gT ig43 ag43 = (a 118, ((gDm (gKn i a) (i 7424) (dRm x2 100) (gDr (gKn i a) (i 7424) (dRm x2 100) (dRm (x2 / 100) 100).toInt.toNat x3 (a 118) x1 (gR i a) l6_24.toInt.toNat).2 (dRm (x2 / 100) 100).toInt.toNat).2).2) := (gT_lay tG41 (og43.trans (show a35 139 = a 118 from (by first | rfl | (simp only [O35_2, sMn, sMx]; done) | (simp only [O35_2, sMn, sMx]; rfl)))) (kg43.fi 7464 rfl) (kg43.fi 7465 rfl) (kg43.fi 7466 rfl) (kg43.fi 7467 rfl) (kg43.fa 141 rfl))
                            have q45 : ag43 118 = a35 139 := og43
                            have s46 : (l6_24 + 1).toInt = l6_24.toInt + (1 : Int32).toInt := kd_add (toh16 p24_0 ktoh1) (toh40 c29 z9.2 ktoh30 ktoh1)
                            refine ft_go mi_k201 2 71 [(6, .int (l6_24 + 1)), (7, .int l7_35), (5, .int l5_24), (4, .int l4_35), (0, .ref 116), (1, .int x1), (2, .int x2), (3, .int x3)] [] ig43 ag43 qg43 rg43 (by rfl) ?_
                            refine ko_perm [(6, .int (l6_24 + 1)), (5, .int l5_24), (4, .int l4_35), (0, .ref 116), (1, .int x1), (2, .int x2), (3, .int x3)] (List.forall_mem_cons.mpr ⟨(List.Mem.head _), (List.forall_mem_cons.mpr ⟨(List.Mem.tail _ (List.Mem.tail _ (List.Mem.head _))), (List.forall_mem_cons.mpr ⟨(List.Mem.tail _ (List.Mem.tail _ (List.Mem.tail _ (List.Mem.head _)))), (List.forall_mem_cons.mpr ⟨(List.Mem.tail _ (List.Mem.tail _ (List.Mem.tail _ (List.Mem.tail _ (List.Mem.head _))))), (List.forall_mem_cons.mpr ⟨(List.Mem.tail _ (List.Mem.tail _ (List.Mem.tail _ (List.Mem.tail _ (List.Mem.tail _ (List.Mem.head _)))))), (List.forall_mem_cons.mpr ⟨(List.Mem.tail _ (List.Mem.tail _ (List.Mem.tail _ (List.Mem.tail _ (List.Mem.tail _ (List.Mem.tail _ (List.Mem.head _))))))), (List.forall_mem_cons.mpr ⟨(List.Mem.tail _ (List.Mem.tail _ (List.Mem.tail _ (List.Mem.tail _ (List.Mem.tail _ (List.Mem.tail _ (List.Mem.tail _ (List.Mem.head _)))))))), (fun _ h => absurd h List.not_mem_nil)⟩)⟩)⟩)⟩)⟩)⟩)⟩) ?_
                            have fig43_7424 : ((0 : Int) ≤ (ig43 7424).toInt) ∧ ((ig43 7424).toInt ≤ 8) := hGg43.I.1 7424
                            have efig43_7424 : (ig43 7424).toInt = (i35 7424).toInt := kg43.ti 7424 rfl
                            exact ih24 _ _ _ _ _ _ _ hGg43 (toh18 p24_0 s46 ktoh1) (toh41 c29 s46 s7 ktoh1) (toh42 c34 efi35_7424 efig43_7424 ktoh0) (toh43 efi24_7424 efi35_7424 efig18_7424 efig43_7424) (gDr_la (m := (dRm (x2 / 100) 100).toInt.toNat) (dk := dRm x2 100) O24_1 zD40 (toh10 p24_0) (toh21 s46 ktoh1) (toh33 c17 ktohm1)).2.1 (gDr_la (m := (dRm (x2 / 100) 100).toInt.toNat) (dk := dRm x2 100) O24_1 zD40 (toh10 p24_0) (toh21 s46 ktoh1) (toh33 c17 ktohm1)).1 (gT_c tG44 (gDr_la (m := (dRm (x2 / 100) 100).toInt.toNat) (dk := dRm x2 100) O24_1 zD40 (toh10 p24_0) (toh21 s46 ktoh1) (toh33 c17 ktohm1)).2.2) (by first | rfl | (simp only [q45, O35_2, sMn, sMx]; done) | (simp only [q45, O35_2, sMn, sMx]; rfl)) (by first | rfl | (simp only [kg43.fa 139 rfl, O35_2, sMn, sMx]; done) | (simp only [kg43.fa 139 rfl, O35_2, sMn, sMx]; rfl)) (kj_meas (toh44 s46 ktoh1) (toh45 c29 s7) hm24)
                          ·
                            have c47 : x3.toInt ≠ ((-1) : Int32).toInt := kd_eqF c; clear c
                            exact (toh32 c17 c47 ktohm1).elim
                        ·
                          have c48 : l7_35.toInt < ((x2 / 100) - (x2 / 100) / 100 * 100).toInt := kd_leF c; clear c
                          have b49 : ((-2147483648 : Int) ≤ l4_35.toInt) ∧ (l4_35.toInt ≤ 2147483647) := kd_bd l4_35
                          have b50 : ((-2147483648 : Int) ≤ (l4_35 * 1103515245).toInt) ∧ ((l4_35 * 1103515245).toInt ≤ 2147483647) := kd_bd (l4_35 * 1103515245)
                          have s51 : (0 : Int) ≤ ((((l4_35 * 1103515245) + 12345).toUInt32 >>> ((16 : Int32).toUInt32 &&& Int32.toUInt32 31)).toInt32).toInt := kd_ushr 16 (by decide) (by decide) (by decide)
                          have s52 : (((((l4_35 * 1103515245) + 12345).toUInt32 >>> ((16 : Int32).toUInt32 &&& Int32.toUInt32 31)).toInt32) - ((((l4_35 * 1103515245) + 12345).toUInt32 >>> ((16 : Int32).toUInt32 &&& Int32.toUInt32 31)).toInt32) / 12 * 12).toInt = (((((l4_35 * 1103515245) + 12345).toUInt32 >>> ((16 : Int32).toUInt32 &&& Int32.toUInt32 31)).toInt32).toInt % 12) := kd_rem 12 ktoh12 (by decide) (toh10 s51)
                          refine ft_go mi_k201 14 127 [(4, .int ((l4_35 * 1103515245) + 12345)), (7, .int l7_35), (6, .int l6_24), (5, .int l5_24), (0, .ref 116), (1, .int x1), (2, .int x2), (3, .int x3)] [.int (x2 - x2 / 100 * 100), .int (((((l4_35 * 1103515245) + 12345).toUInt32 >>> ((16 : Int32).toUInt32 &&& Int32.toUInt32 31)).toInt32) - ((((l4_35 * 1103515245) + 12345).toUInt32 >>> ((16 : Int32).toUInt32 &&& Int32.toUInt32 31)).toInt32) / 12 * 12)] i35 a35 q35 r35 (by rfl) ?_
                          refine ft_if mi_k201 (decide ((x2 - x2 / 100 * 100) ≤ (((((l4_35 * 1103515245) + 12345).toUInt32 >>> ((16 : Int32).toUInt32 &&& Int32.toUInt32 31)).toInt32) - ((((l4_35 * 1103515245) + 12345).toUInt32 >>> ((16 : Int32).toUInt32 &&& Int32.toUInt32 31)).toInt32) / 12 * 12))) 134 130 [(4, .int ((l4_35 * 1103515245) + 12345)), (7, .int l7_35), (6, .int l6_24), (5, .int l5_24), (0, .ref 116), (1, .int x1), (2, .int x2), (3, .int x3)] [] (by rfl) (fun c => ?_) (fun c => ?_)
                          ·
                            have c53 : (x2 - x2 / 100 * 100).toInt ≤ (((((l4_35 * 1103515245) + 12345).toUInt32 >>> ((16 : Int32).toUInt32 &&& Int32.toUInt32 31)).toInt32) - ((((l4_35 * 1103515245) + 12345).toUInt32 >>> ((16 : Int32).toUInt32 &&& Int32.toUInt32 31)).toInt32) / 12 * 12).toInt := kd_le c; clear c
                            have s54 : (0 : Int) ≤ ((((l4_35 * 1103515245) + 12345).toUInt32 >>> ((8 : Int32).toUInt32 &&& Int32.toUInt32 31)).toInt32).toInt := kd_ushr 8 (by decide) (by decide) (by decide)
                            refine ft_go mi_k201 6 144 [(4, .int ((l4_35 * 1103515245) + 12345)), (7, .int l7_35), (6, .int l6_24), (5, .int l5_24), (0, .ref 116), (1, .int x1), (2, .int x2), (3, .int x3)] [.int (i35 7424), .int ((((l4_35 * 1103515245) + 12345).toUInt32 >>> ((8 : Int32).toUInt32 &&& Int32.toUInt32 31)).toInt32), .ref 116] i35 a35 q35 r35 (by rfl) ?_
                            have s55 : ((0 : Int) ≤ (((((l4_35 * 1103515245) + 12345).toUInt32 >>> ((8 : Int32).toUInt32 &&& Int32.toUInt32 31)).toInt32) - ((((l4_35 * 1103515245) + 12345).toUInt32 >>> ((8 : Int32).toUInt32 &&& Int32.toUInt32 31)).toInt32) / (i35 7424) * (i35 7424)).toInt) ∧ ((((((l4_35 * 1103515245) + 12345).toUInt32 >>> ((8 : Int32).toUInt32 &&& Int32.toUInt32 31)).toInt32) - ((((l4_35 * 1103515245) + 12345).toUInt32 >>> ((8 : Int32).toUInt32 &&& Int32.toUInt32 31)).toInt32) / (i35 7424) * (i35 7424)).toInt < (i35 7424).toInt) := kd_remv (toh47 c34 efi35_7424 ktoh0) (toh10 s54)
                            refine ko_irem mi_k201.1 (ax := (0, 0, 0, 0, 0)) (mi_k201.2 _ _ (by rfl)) (toh46 c34 efi35_7424 ktoh0) ?_
                            have hG56 := kG_call hL24 hL35 (by decide +kernel)
                            have hG57 := kG_call hGg18 hG56 (by decide +kernel)
                            refine ko_callI mi_k201.1 (pc := 145) (ls := [(4, .int ((l4_35 * 1103515245) + 12345)), (7, .int l7_35), (6, .int l6_24), (5, .int l5_24), (0, .ref 116), (1, .int x1), (2, .int x2), (3, .int x3)]) (st := [.int (((((l4_35 * 1103515245) + 12345).toUInt32 >>> ((8 : Int32).toUInt32 &&& Int32.toUInt32 31)).toInt32) - ((((l4_35 * 1103515245) + 12345).toUInt32 >>> ((8 : Int32).toUInt32 &&& Int32.toUInt32 31)).toInt32) / (i35 7424) * (i35 7424)), .ref 116]) (h := ks i35 a35 q35 r35) (i := (.invokevirtual 260, 3, 166, 0, 9, 0, 415)) (mi_k201.2 _ _ (by rfl)) (ft_invS mi_pq166 (by rfl)) (cy := mi_c166) mi_pq166 rfl (kg166_116 hL35.I hL35.R (((((l4_35 * 1103515245) + 12345).toUInt32 >>> ((8 : Int32).toUInt32 &&& Int32.toUInt32 31)).toInt32) - ((((l4_35 * 1103515245) + 12345).toUInt32 >>> ((8 : Int32).toUInt32 &&& Int32.toUInt32 31)).toInt32) / (i35 7424) * (i35 7424)) (toh48 fi35_7424.2 s55.1 s55.2) (kCode_of (i1 := i35) hE_code (hG57.fi 7432 rfl) (hG57.fa 120 rfl) (hG57.fa 121 rfl) (hG57.fa 122 rfl) (hG57.fa 123 rfl))) (by decide) ?_
                            intro vg58 ig58 ag58 qg58 rg58 kg58 hg58
                            have hGg58 := kG_call hL35 kg58 (by decide +kernel)
                            obtain ⟨hg58, og58⟩ := hg58
                            have oG59 := og58
                            have hG60 := kG_call hL24 hL35 (by decide +kernel)
                            have hG61 := kG_call hGg18 hG60 (by decide +kernel)
                            rw [(gKn_fr hG61 (by decide +kernel) : gKn i35 a35 = gKn i a), (O35_1 : gT i35 a35 = (gDm (gKn i a) (i 7424) (dRm x2 100) (gDr (gKn i a) (i 7424) (dRm x2 100) (dRm (x2 / 100) 100).toInt.toNat x3 (a 118) x1 (gR i a) l6_24.toInt.toNat).2 l7_35.toInt.toNat).2)] at oG59
                            have tG62 : gT ig58 ag58 = gIn (gKn i a) (((((l4_35 * 1103515245) + 12345).toUInt32 >>> ((8 : Int32).toUInt32 &&& Int32.toUInt32 31)).toInt32) - ((((l4_35 * 1103515245) + 12345).toUInt32 >>> ((8 : Int32).toUInt32 &&& Int32.toUInt32 31)).toInt32) / (i35 7424) * (i35 7424)) ((gDm (gKn i a) (i 7424) (dRm x2 100) (gDr (gKn i a) (i 7424) (dRm x2 100) (dRm (x2 / 100) 100).toInt.toNat x3 (a 118) x1 (gR i a) l6_24.toInt.toNat).2 l7_35.toInt.toNat).2) := oG59
                            have s63 : (l7_35 + 1).toInt = l7_35.toInt + (1 : Int32).toInt := kd_add (toh16 p35_0 ktoh1) (toh49 c48 s11 ktoh1)
                            refine ft_go mi_k201 3 91 [(7, .int (l7_35 + 1)), (4, .int ((l4_35 * 1103515245) + 12345)), (6, .int l6_24), (5, .int l5_24), (0, .ref 116), (1, .int x1), (2, .int x2), (3, .int x3)] [] ig58 ag58 qg58 rg58 (by rfl) ?_
                            refine ko_perm [(7, .int (l7_35 + 1)), (6, .int l6_24), (5, .int l5_24), (4, .int ((l4_35 * 1103515245) + 12345)), (0, .ref 116), (1, .int x1), (2, .int x2), (3, .int x3)] (List.forall_mem_cons.mpr ⟨(List.Mem.head _), (List.forall_mem_cons.mpr ⟨(List.Mem.tail _ (List.Mem.tail _ (List.Mem.head _))), (List.forall_mem_cons.mpr ⟨(List.Mem.tail _ (List.Mem.tail _ (List.Mem.tail _ (List.Mem.head _)))), (List.forall_mem_cons.mpr ⟨(List.Mem.tail _ (List.Mem.head _)), (List.forall_mem_cons.mpr ⟨(List.Mem.tail _ (List.Mem.tail _ (List.Mem.tail _ (List.Mem.tail _ (List.Mem.head _))))), (List.forall_mem_cons.mpr ⟨(List.Mem.tail _ (List.Mem.tail _ (List.Mem.tail _ (List.Mem.tail _ (List.Mem.tail _ (List.Mem.head _)))))), (List.forall_mem_cons.mpr ⟨(List.Mem.tail _ (List.Mem.tail _ (List.Mem.tail _ (List.Mem.tail _ (List.Mem.tail _ (List.Mem.tail _ (List.Mem.head _))))))), (List.forall_mem_cons.mpr ⟨(List.Mem.tail _ (List.Mem.tail _ (List.Mem.tail _ (List.Mem.tail _ (List.Mem.tail _ (List.Mem.tail _ (List.Mem.tail _ (List.Mem.head _)))))))), (fun _ h => absurd h List.not_mem_nil)⟩)⟩)⟩)⟩)⟩)⟩)⟩)⟩) ?_
                            have fig58_7424 : ((0 : Int) ≤ (ig58 7424).toInt) ∧ ((ig58 7424).toInt ≤ 8) := hGg58.I.1 7424
                            have efig58_7424 : (ig58 7424).toInt = (i35 7424).toInt := kg58.ti 7424 rfl
                            exact ih35 _ _ _ _ _ _ hGg58 (toh18 p35_0 s63 ktoh1) (toh50 c48 s63 ktoh1) (toh43 efi24_7424 efi35_7424 efig18_7424 efig58_7424) (congrArg Prod.fst (gD_no (n1 := (i35 7424)) ((((hL35.fi 7424 rfl).trans (hL24.fi 7424 rfl)).trans (kg18.fi 7424 rfl)) : (i35 7424) = i 7424) O35_0 (toh10 p35_0) (toh21 s63 ktoh1) (toh51 c53))).symm (gT_c tG62 (congrArg Prod.snd (gD_no (n1 := (i35 7424)) ((((hL35.fi 7424 rfl).trans (hL24.fi 7424 rfl)).trans (kg18.fi 7424 rfl)) : (i35 7424) = i 7424) O35_0 (toh10 p35_0) (toh21 s63 ktoh1) (toh51 c53)))) (by first | rfl | (simp only [kg58.fa 139 rfl, O35_2, sMn, sMx]; done) | (simp only [kg58.fa 139 rfl, O35_2, sMn, sMx]; rfl)) (kj_meas (toh52 s63 ktoh1) (toh53 c48 s11) hm35)
                          ·
                            have c64 : (((((l4_35 * 1103515245) + 12345).toUInt32 >>> ((16 : Int32).toUInt32 &&& Int32.toUInt32 31)).toInt32) - ((((l4_35 * 1103515245) + 12345).toUInt32 >>> ((16 : Int32).toUInt32 &&& Int32.toUInt32 31)).toInt32) / 12 * 12).toInt < (x2 - x2 / 100 * 100).toInt := kd_leF c; clear c
                            refine ft_go mi_k201 1 131 [(4, .int ((l4_35 * 1103515245) + 12345)), (7, .int l7_35), (6, .int l6_24), (5, .int l5_24), (0, .ref 116), (1, .int x1), (2, .int x2), (3, .int x3)] [.ref 116] i35 a35 q35 r35 (by rfl) ?_
                            refine ko_callN mi_k201.1 (pc := 131) (ls := [(4, .int ((l4_35 * 1103515245) + 12345)), (7, .int l7_35), (6, .int l6_24), (5, .int l5_24), (0, .ref 116), (1, .int x1), (2, .int x2), (3, .int x3)]) (st := [.ref 116]) (h := ks i35 a35 q35 r35) (i := (.invokevirtual 282, 3, 167, 0, 9, 0, 426)) (mi_k201.2 _ _ (by rfl)) (ft_invS mi_pq167 (by rfl)) (cy := mi_c167) mi_pq167 rfl (ke167_116 hL35.I hL35.R ) (by decide) ?_
                            intro ig65 ag65 qg65 rg65 kg65 hg65
                            have hGg65 := kG_call hL35 kg65 (by decide +kernel)
                            obtain ⟨hg65, og65⟩ := hg65
                            have tG66 : gT ig65 ag65 = gEve ((gDm (gKn i a) (i 7424) (dRm x2 100) (gDr (gKn i a) (i 7424) (dRm x2 100) (dRm (x2 / 100) 100).toInt.toNat x3 (a 118) x1 (gR i a) l6_24.toInt.toNat).2 l7_35.toInt.toNat).2) := (gT_eve O35_1 og65 (kg65.fi 7464 rfl) (kg65.fi 7465 rfl) (kg65.fi 7466 rfl) (kg65.fi 7467 rfl) (kg65.fa 141 rfl))
                            have q67 : ag65 118 = sEnds (a35 118) := og65
                            have s68 : (0 : Int) ≤ ((((l4_35 * 1103515245) + 12345).toUInt32 >>> ((8 : Int32).toUInt32 &&& Int32.toUInt32 31)).toInt32).toInt := kd_ushr 8 (by decide) (by decide) (by decide)
                            have fig65_7424 : ((0 : Int) ≤ (ig65 7424).toInt) ∧ ((ig65 7424).toInt ≤ 8) := hGg65.I.1 7424
                            have efig65_7424 : (ig65 7424).toInt = (i35 7424).toInt := kg65.ti 7424 rfl
                            refine ft_go mi_k201 6 144 [(4, .int ((l4_35 * 1103515245) + 12345)), (7, .int l7_35), (6, .int l6_24), (5, .int l5_24), (0, .ref 116), (1, .int x1), (2, .int x2), (3, .int x3)] [.int (ig65 7424), .int ((((l4_35 * 1103515245) + 12345).toUInt32 >>> ((8 : Int32).toUInt32 &&& Int32.toUInt32 31)).toInt32), .ref 116] ig65 ag65 qg65 rg65 (by rfl) ?_
                            have s69 : ((0 : Int) ≤ (((((l4_35 * 1103515245) + 12345).toUInt32 >>> ((8 : Int32).toUInt32 &&& Int32.toUInt32 31)).toInt32) - ((((l4_35 * 1103515245) + 12345).toUInt32 >>> ((8 : Int32).toUInt32 &&& Int32.toUInt32 31)).toInt32) / (ig65 7424) * (ig65 7424)).toInt) ∧ ((((((l4_35 * 1103515245) + 12345).toUInt32 >>> ((8 : Int32).toUInt32 &&& Int32.toUInt32 31)).toInt32) - ((((l4_35 * 1103515245) + 12345).toUInt32 >>> ((8 : Int32).toUInt32 &&& Int32.toUInt32 31)).toInt32) / (ig65 7424) * (ig65 7424)).toInt < (ig65 7424).toInt) := kd_remv (toh71 c34 efi35_7424 efig65_7424 ktoh0) (toh10 s68)
                            refine ko_irem mi_k201.1 (ax := (0, 0, 0, 0, 0)) (mi_k201.2 _ _ (by rfl)) (toh70 c34 efi35_7424 efig65_7424 ktoh0) ?_
                            have hG70 := kG_call hL24 hGg65 (by decide +kernel)
                            have hG71 := kG_call hGg18 hG70 (by decide +kernel)
                            refine ko_callI mi_k201.1 (pc := 145) (ls := [(4, .int ((l4_35 * 1103515245) + 12345)), (7, .int l7_35), (6, .int l6_24), (5, .int l5_24), (0, .ref 116), (1, .int x1), (2, .int x2), (3, .int x3)]) (st := [.int (((((l4_35 * 1103515245) + 12345).toUInt32 >>> ((8 : Int32).toUInt32 &&& Int32.toUInt32 31)).toInt32) - ((((l4_35 * 1103515245) + 12345).toUInt32 >>> ((8 : Int32).toUInt32 &&& Int32.toUInt32 31)).toInt32) / (ig65 7424) * (ig65 7424)), .ref 116]) (h := ks ig65 ag65 qg65 rg65) (i := (.invokevirtual 260, 3, 166, 0, 9, 0, 415)) (mi_k201.2 _ _ (by rfl)) (ft_invS mi_pq166 (by rfl)) (cy := mi_c166) mi_pq166 rfl (kg166_116 hGg65.I hGg65.R (((((l4_35 * 1103515245) + 12345).toUInt32 >>> ((8 : Int32).toUInt32 &&& Int32.toUInt32 31)).toInt32) - ((((l4_35 * 1103515245) + 12345).toUInt32 >>> ((8 : Int32).toUInt32 &&& Int32.toUInt32 31)).toInt32) / (ig65 7424) * (ig65 7424)) (toh48 fig65_7424.2 s69.1 s69.2) (kCode_of (i1 := ig65) hE_code (hG71.fi 7432 rfl) (hG71.fa 120 rfl) (hG71.fa 121 rfl) (hG71.fa 122 rfl) (hG71.fa 123 rfl))) (by decide) ?_
                            intro vg72 ig72 ag72 qg72 rg72 kg72 hg72
                            have hGg72 := kG_call hGg65 kg72 (by decide +kernel)
                            obtain ⟨hg72, og72⟩ := hg72
                            have oG73 := og72
                            have hG74 := kG_call hL24 hGg65 (by decide +kernel)
                            have hG75 := kG_call hGg18 hG74 (by decide +kernel)
                            rw [(gKn_fr hG75 (by decide +kernel) : gKn ig65 ag65 = gKn i a), (tG66 : gT ig65 ag65 = gEve ((gDm (gKn i a) (i 7424) (dRm x2 100) (gDr (gKn i a) (i 7424) (dRm x2 100) (dRm (x2 / 100) 100).toInt.toNat x3 (a 118) x1 (gR i a) l6_24.toInt.toNat).2 l7_35.toInt.toNat).2))] at oG73
                            have tG76 : gT ig72 ag72 = gIn (gKn i a) (((((l4_35 * 1103515245) + 12345).toUInt32 >>> ((8 : Int32).toUInt32 &&& Int32.toUInt32 31)).toInt32) - ((((l4_35 * 1103515245) + 12345).toUInt32 >>> ((8 : Int32).toUInt32 &&& Int32.toUInt32 31)).toInt32) / (ig65 7424) * (ig65 7424)) (gEve ((gDm (gKn i a) (i 7424) (dRm x2 100) (gDr (gKn i a) (i 7424) (dRm x2 100) (dRm (x2 / 100) 100).toInt.toNat x3 (a 118) x1 (gR i a) l6_24.toInt.toNat).2 l7_35.toInt.toNat).2)) := oG73
                            have s77 : (l7_35 + 1).toInt = l7_35.toInt + (1 : Int32).toInt := kd_add (toh16 p35_0 ktoh1) (toh49 c48 s11 ktoh1)
                            refine ft_go mi_k201 3 91 [(7, .int (l7_35 + 1)), (4, .int ((l4_35 * 1103515245) + 12345)), (6, .int l6_24), (5, .int l5_24), (0, .ref 116), (1, .int x1), (2, .int x2), (3, .int x3)] [] ig72 ag72 qg72 rg72 (by rfl) ?_
                            refine ko_perm [(7, .int (l7_35 + 1)), (6, .int l6_24), (5, .int l5_24), (4, .int ((l4_35 * 1103515245) + 12345)), (0, .ref 116), (1, .int x1), (2, .int x2), (3, .int x3)] (List.forall_mem_cons.mpr ⟨(List.Mem.head _), (List.forall_mem_cons.mpr ⟨(List.Mem.tail _ (List.Mem.tail _ (List.Mem.head _))), (List.forall_mem_cons.mpr ⟨(List.Mem.tail _ (List.Mem.tail _ (List.Mem.tail _ (List.Mem.head _)))), (List.forall_mem_cons.mpr ⟨(List.Mem.tail _ (List.Mem.head _)), (List.forall_mem_cons.mpr ⟨(List.Mem.tail _ (List.Mem.tail _ (List.Mem.tail _ (List.Mem.tail _ (List.Mem.head _))))), (List.forall_mem_cons.mpr ⟨(List.Mem.tail _ (List.Mem.tail _ (List.Mem.tail _ (List.Mem.tail _ (List.Mem.tail _ (List.Mem.head _)))))), (List.forall_mem_cons.mpr ⟨(List.Mem.tail _ (List.Mem.tail _ (List.Mem.tail _ (List.Mem.tail _ (List.Mem.tail _ (List.Mem.tail _ (List.Mem.head _))))))), (List.forall_mem_cons.mpr ⟨(List.Mem.tail _ (List.Mem.tail _ (List.Mem.tail _ (List.Mem.tail _ (List.Mem.tail _ (List.Mem.tail _ (List.Mem.tail _ (List.Mem.head _)))))))), (fun _ h => absurd h List.not_mem_nil)⟩)⟩)⟩)⟩)⟩)⟩)⟩)⟩) ?_
                            have fig72_7424 : ((0 : Int) ≤ (ig72 7424).toInt) ∧ ((ig72 7424).toInt ≤ 8) := hGg72.I.1 7424
                            have efig72_7424 : (ig72 7424).toInt = (ig65 7424).toInt := kg72.ti 7424 rfl
                            exact ih35 _ _ _ _ _ _ hGg72 (toh18 p35_0 s77 ktoh1) (toh50 c48 s77 ktoh1) (toh72 efi24_7424 efi35_7424 efig18_7424 efig65_7424 efig72_7424) (congrArg Prod.fst (gD_yes (n1 := (ig65 7424)) (((((kg65.fi 7424 rfl).trans (hL35.fi 7424 rfl)).trans (hL24.fi 7424 rfl)).trans (kg18.fi 7424 rfl)) : (ig65 7424) = i 7424) O35_0 (toh10 p35_0) (toh21 s77 ktoh1) (toh73 c64))).symm (gT_c tG76 (congrArg Prod.snd (gD_yes (n1 := (ig65 7424)) (((((kg65.fi 7424 rfl).trans (hL35.fi 7424 rfl)).trans (hL24.fi 7424 rfl)).trans (kg18.fi 7424 rfl)) : (ig65 7424) = i 7424) O35_0 (toh10 p35_0) (toh21 s77 ktoh1) (toh73 c64)))) (by first | rfl | (simp only [kg72.fa 139 rfl, kg65.fa 139 rfl, O35_2, sMn, sMx]; done) | (simp only [kg72.fa 139 rfl, kg65.fa 139 rfl, O35_2, sMn, sMx]; rfl)) (kj_meas (toh52 s77 ktoh1) (toh53 c48 s11) hm35)
                    exact lp35 _ _ _ _ _ _ _ (kG_self _ hL24.I hL24.R) (toh24 ktoh0) (toh74 z13.1 ktoh1 ktoh0) (toh75 efi24_7424 efig18_7424) (O24_0.trans (congrArg Prod.fst (gDm_0 ktoh0)).symm) (gT_c O24_2 (congrArg Prod.snd (gDm_0 ktoh0))) (by first | rfl | (simp only [O24_4, sMn, sMx]; done) | (simp only [O24_4, sMn, sMx]; rfl)) (Nat.lt_succ_self _)
            have fig18_7424 : ((0 : Int) ≤ (ig18 7424).toInt) ∧ ((ig18 7424).toInt ≤ 8) := hGg18.I.1 7424
            have fi_7424 : ((0 : Int) ≤ (i 7424).toInt) ∧ ((i 7424).toInt ≤ 8) := hG.I.1 7424
            have efig18_7424 : (ig18 7424).toInt = (i 7424).toInt := kg18.ti 7424 rfl
            exact lp24 _ _ _ _ _ _ _ _ (kG_self _ hGg18.I hGg18.R) (toh24 ktoh0) (toh76 s7 z9.1 ktoh1 ktoh0) (toh77 ktoh0) (toh78 efig18_7424) (congrArg (fun z => z.2.1) (gDr_0 ktoh0)).symm (congrArg Prod.fst (gDr_0 ktoh0)).symm (gT_c tG19 (congrArg (fun z => z.2.2) (gDr_0 ktoh0))) (by first | rfl | (simp only [q21, sMn, sMx]; done) | (simp only [q21, sMn, sMx]; rfl)) (by first | rfl | (simp only [q20, sMn, sMx]; done) | (simp only [q20, sMn, sMx]; rfl)) (Nat.lt_succ_self _)
          ·
            have c78 : x3.toInt ≠ ((-1) : Int32).toInt := kd_eqF c; clear c
            refine ft_go mi_k201 2 50 [(0, .ref 116), (1, .int x1), (2, .int x2), (3, .int x3)] [.int x3, .ref 116] i a q r (by rfl) ?_
            refine ko_callPI mi_k201.1 (pc := 50) (ls := [(0, .ref 116), (1, .int x1), (2, .int x2), (3, .int x3)]) (st := [.int x3, .ref 116]) (h := ks i a q r) (i := (.invokevirtual 137, 3, 132, 0, 9, 0, 387)) (mi_k201.2 _ _ (by rfl)) (ft_invS mi_pq132 (by rfl)) (cy := mi_c132) mi_pq132 rfl (kc132_116 hG.I hG.R x3) (by decide) ?_
            intro vg79 hg79
            rcases hg79 with ⟨eg79, hg79⟩ | ⟨eg79, hg79⟩
            ·
              subst eg79
              have fi_7424 : ((0 : Int) ≤ (i 7424).toInt) ∧ ((i 7424).toInt ≤ 8) := hG.I.1 7424
              have z80 : ((0 : Int) ≤ x3.toInt) ∧ (x3.toInt < (i 7424).toInt) := hg79
              refine ft_go mi_k201 2 59 [(0, .ref 116), (1, .int x1), (2, .int x2), (3, .int x3)] [.ref 116] i a q r (by rfl) ?_
              refine ko_callN mi_k201.1 (pc := 59) (ls := [(0, .ref 116), (1, .int x1), (2, .int x2), (3, .int x3)]) (st := [.ref 116]) (h := ks i a q r) (i := (.invokevirtual 267, 3, 171, 0, 9, 0, 412)) (mi_k201.2 _ _ (by rfl)) (ft_invS mi_pq171 (by rfl)) (cy := mi_c171) mi_pq171 rfl (kg171_116 hG.I hG.R ) (by decide) ?_
              intro ig81 ag81 qg81 rg81 kg81 hg81
              have hGg81 := kG_call hG kg81 (by decide +kernel)
              obtain ⟨hg81, og81⟩ := hg81
              have tG82 : gT ig81 ag81 = gR i a := (gT_R (og81.2.1.trans rfl) (kg81.fi 7464 rfl) (kg81.fi 7465 rfl) (kg81.fi 7466 rfl) og81.2.2.1 og81.2.2.2)
              have q83 : ag81 139 = a 118 := og81.1
              have q84 : ag81 118 = a 118 := og81.2.1
              have q85 : ig81 7467 = 0 := og81.2.2.1
              have q86 : ag81 141 = List.replicate 64 0 := og81.2.2.2
              refine ft_go mi_k201 6 71 [(6, .int 0), (5, .int 0), (4, .int x1), (0, .ref 116), (1, .int x1), (2, .int x2), (3, .int x3)] [] ig81 ag81 qg81 rg81 (by rfl) ?_
              have lp87 : ∀ (nz : Nat) (i87 : Nat → Int32) (a87 : Nat → List Int32) (q87 : Nat → List Int64) (r87 : Nat → Nat) (l6_87 : Int32) (l5_87 : Int32) (l4_87 : Int32), kG yzw201_116_L71 ig81 ag81 qg81 rg81 i87 a87 q87 r87 → (0 : Int) ≤ l6_87.toInt → l6_87.toInt ≤ (x2.toInt / 10000) → (l6_87.toInt = 0) ∨ ((1 : Int) ≤ (i87 7424).toInt) → (i87 7424).toInt = (i 7424).toInt → l4_87 = (gDr (gKn i a) (i 7424) (dRm x2 100) (dRm (x2 / 100) 100).toInt.toNat x3 (a 118) x1 (gR i a) l6_87.toInt.toNat).2.1 → l5_87 = (gDr (gKn i a) (i 7424) (dRm x2 100) (dRm (x2 / 100) 100).toInt.toNat x3 (a 118) x1 (gR i a) l6_87.toInt.toNat).1 → gT i87 a87 = (gDr (gKn i a) (i 7424) (dRm x2 100) (dRm (x2 / 100) 100).toInt.toNat x3 (a 118) x1 (gR i a) l6_87.toInt.toNat).2.2 → a87 118 = a 118 → a87 139 = a 118 → (((x2.toInt / 10000) - l6_87.toInt)).toNat < nz → ko 11 (mi_h201, mi_c201) P (71, [(6, .int l6_87), (5, .int l5_87), (4, .int l4_87), (0, .ref 116), (1, .int x1), (2, .int x2), (3, .int x3)], [], (0, 0), ks i87 a87 q87 r87) := by
                intro nz
                induction nz with
                | zero =>
                  intro _ _ _ _ _ _ _ _ _ _ _ _ _ _ _ _ _ hm
                  exact absurd hm (Nat.not_lt_zero _)
                | succ nz ih87 =>
                  intro i87 a87 q87 r87 l6_87 l5_87 l4_87 hL87 p87_0 p87_1 p87_2 p87_3 O87_0 O87_1 O87_2 O87_3 O87_4 hm87
                  have fi87_7424 : ((0 : Int) ≤ (i87 7424).toInt) ∧ ((i87 7424).toInt ≤ 8) := hL87.I.1 7424
                  have fig81_7424 : ((0 : Int) ≤ (ig81 7424).toInt) ∧ ((ig81 7424).toInt ≤ 8) := hGg81.I.1 7424
                  have efig81_7424 : (ig81 7424).toInt = (i 7424).toInt := kg81.ti 7424 rfl
                  have efi87_7424 : (i87 7424).toInt = (ig81 7424).toInt := hL87.ti 7424 rfl
                  refine ft_go mi_k201 4 78 [(6, .int l6_87), (5, .int l5_87), (4, .int l4_87), (0, .ref 116), (1, .int x1), (2, .int x2), (3, .int x3)] [.int (x2 / 10000), .int l6_87] i87 a87 q87 r87 (by rfl) ?_
                  refine ft_if mi_k201 (decide ((x2 / 10000) ≤ l6_87)) 186 81 [(6, .int l6_87), (5, .int l5_87), (4, .int l4_87), (0, .ref 116), (1, .int x1), (2, .int x2), (3, .int x3)] [] (by rfl) (fun c => ?_) (fun c => ?_)
                  ·
                    have c88 : (x2 / 10000).toInt ≤ l6_87.toInt := kd_le c; clear c
                    have hG89 := kG_call hGg81 hL87 (by decide +kernel)
                    refine ft_go mi_k201 2 188 [(6, .int l6_87), (5, .int l5_87), (4, .int l4_87), (0, .ref 116), (1, .int x1), (2, .int x2), (3, .int x3)] [.int (-1), .int x3] i87 a87 q87 r87 (by rfl) ?_
                    refine ft_if mi_k201 (x3 != (-1)) 198 191 [(6, .int l6_87), (5, .int l5_87), (4, .int l4_87), (0, .ref 116), (1, .int x1), (2, .int x2), (3, .int x3)] [] (by rfl) (fun c => ?_) (fun c => ?_)
                    ·
                      have c90 : x3.toInt ≠ ((-1) : Int32).toInt := kd_ne c; clear c
                      refine ft_go mi_k201 1 200 [(6, .int l6_87), (5, .int l5_87), (4, .int l4_87), (0, .ref 116), (1, .int x1), (2, .int x2), (3, .int x3)] [.int l5_87] i87 a87 q87 r87 (by rfl) ?_
                      exact ft_ret mi_k201 (by rfl) (hP l5_87 _ _ _ _ hG89 ⟨trivial, ⟨(show a87 118 = a 118 from (by first | rfl | (simp only [O87_3, sMn, sMx]; done) | (simp only [O87_3, sMn, sMx]; rfl))), (Or.inr ⟨(toh85 c16 c6 z13.1 z13.2 z80.1 z80.2 z9.1 z9.2 ktoh12 ktoh0 ktoh1 ktoh60 ktoh30), dV_end (toh84 c88 p87_1 s7 z80.1 z80.2) (dV_pu (toh83 z80.1) O87_1)⟩)⟩⟩)
                    ·
                      have c91 : x3.toInt = ((-1) : Int32).toInt := kd_neF c; clear c
                      exact (toh86 c91 z80.1 ktohm1).elim
                  ·
                    have c92 : l6_87.toInt < (x2 / 10000).toInt := kd_leF c; clear c
                    refine ft_go mi_k201 2 85 [(6, .int l6_87), (5, .int l5_87), (4, .int l4_87), (0, .ref 116), (1, .int x1), (2, .int x2), (3, .int x3)] [.int (i87 7424)] i87 a87 q87 r87 (by rfl) ?_
                    refine ft_if mi_k201 (decide ((i87 7424) ≤ 0)) 186 88 [(6, .int l6_87), (5, .int l5_87), (4, .int l4_87), (0, .ref 116), (1, .int x1), (2, .int x2), (3, .int x3)] [] (by rfl) (fun c => ?_) (fun c => ?_)
                    ·
                      have c93 : (i87 7424).toInt ≤ (0 : Int32).toInt := kd_le c; clear c
                      exact (toh87 c93 efi87_7424 efig81_7424 z80.1 z80.2 ktoh0).elim
                    ·
                      have c94 : (0 : Int32).toInt < (i87 7424).toInt := kd_leF c; clear c
                      refine ft_go mi_k201 2 91 [(7, .int 0), (6, .int l6_87), (5, .int l5_87), (4, .int l4_87), (0, .ref 116), (1, .int x1), (2, .int x2), (3, .int x3)] [] i87 a87 q87 r87 (by rfl) ?_
                      have lp95 : ∀ (nz : Nat) (i95 : Nat → Int32) (a95 : Nat → List Int32) (q95 : Nat → List Int64) (r95 : Nat → Nat) (l7_95 : Int32) (l4_95 : Int32), kG yzw201_116_L91 i87 a87 q87 r87 i95 a95 q95 r95 → (0 : Int) ≤ l7_95.toInt → l7_95.toInt ≤ ((x2 / 100) - (x2 / 100) / 100 * 100).toInt → (i95 7424).toInt = (i 7424).toInt → l4_95 = (gDm (gKn i a) (i 7424) (dRm x2 100) (gDr (gKn i a) (i 7424) (dRm x2 100) (dRm (x2 / 100) 100).toInt.toNat x3 (a 118) x1 (gR i a) l6_87.toInt.toNat).2 l7_95.toInt.toNat).1 → gT i95 a95 = (gDm (gKn i a) (i 7424) (dRm x2 100) (gDr (gKn i a) (i 7424) (dRm x2 100) (dRm (x2 / 100) 100).toInt.toNat x3 (a 118) x1 (gR i a) l6_87.toInt.toNat).2 l7_95.toInt.toNat).2 → a95 139 = a 118 → ((100 - l7_95.toInt)).toNat < nz → ko 11 (mi_h201, mi_c201) P (91, [(7, .int l7_95), (6, .int l6_87), (5, .int l5_87), (4, .int l4_95), (0, .ref 116), (1, .int x1), (2, .int x2), (3, .int x3)], [], (0, 0), ks i95 a95 q95 r95) := by
                        intro nz
                        induction nz with
                        | zero =>
                          intro _ _ _ _ _ _ _ _ _ _ _ _ _ hm
                          exact absurd hm (Nat.not_lt_zero _)
                        | succ nz ih95 =>
                          intro i95 a95 q95 r95 l7_95 l4_95 hL95 p95_0 p95_1 p95_2 O95_0 O95_1 O95_2 hm95
                          have fi95_7424 : ((0 : Int) ≤ (i95 7424).toInt) ∧ ((i95 7424).toInt ≤ 8) := hL95.I.1 7424
                          have efi95_7424 : (i95 7424).toInt = (i87 7424).toInt := hL95.ti 7424 rfl
                          refine ft_go mi_k201 6 100 [(7, .int l7_95), (6, .int l6_87), (5, .int l5_87), (4, .int l4_95), (0, .ref 116), (1, .int x1), (2, .int x2), (3, .int x3)] [.int ((x2 / 100) - (x2 / 100) / 100 * 100), .int l7_95] i95 a95 q95 r95 (by rfl) ?_
                          refine ft_if mi_k201 (decide (((x2 / 100) - (x2 / 100) / 100 * 100) ≤ l7_95)) 155 103 [(7, .int l7_95), (6, .int l6_87), (5, .int l5_87), (4, .int l4_95), (0, .ref 116), (1, .int x1), (2, .int x2), (3, .int x3)] [] (by rfl) (fun c => ?_) (fun c => ?_)
                          ·
                            have c98 : ((x2 / 100) - (x2 / 100) / 100 * 100).toInt ≤ l7_95.toInt := kd_le c; clear c
                            have hG99 := kG_call hL87 hL95 (by decide +kernel)
                            have zD100 : l4_95 = (gDm (gKn i a) (i 7424) (dRm x2 100) (gDr (gKn i a) (i 7424) (dRm x2 100) (dRm (x2 / 100) 100).toInt.toNat x3 (a 118) x1 (gR i a) l6_87.toInt.toNat).2 (dRm (x2 / 100) 100).toInt.toNat).1 := O95_0.trans (congrArg (fun j : Nat => (gDm (gKn i a) (i 7424) (dRm x2 100) (gDr (gKn i a) (i 7424) (dRm x2 100) (dRm (x2 / 100) 100).toInt.toNat x3 (a 118) x1 (gR i a) l6_87.toInt.toNat).2 j).1) (congrArg Int.toNat (toh37 c98 p95_1))).symm
                            have tG101 : gT i95 a95 = (gDm (gKn i a) (i 7424) (dRm x2 100) (gDr (gKn i a) (i 7424) (dRm x2 100) (dRm (x2 / 100) 100).toInt.toNat x3 (a 118) x1 (gR i a) l6_87.toInt.toNat).2 (dRm (x2 / 100) 100).toInt.toNat).2 := (gT_c O95_1 (congrArg (fun j : Nat => (gDm (gKn i a) (i 7424) (dRm x2 100) (gDr (gKn i a) (i 7424) (dRm x2 100) (dRm (x2 / 100) 100).toInt.toNat x3 (a 118) x1 (gR i a) l6_87.toInt.toNat).2 j).2) (congrArg Int.toNat (toh37 c98 p95_1))))
                            refine ft_go mi_k201 2 157 [(7, .int l7_95), (6, .int l6_87), (5, .int l5_87), (4, .int l4_95), (0, .ref 116), (1, .int x1), (2, .int x2), (3, .int x3)] [.int (-1), .int x3] i95 a95 q95 r95 (by rfl) ?_
                            refine ft_if mi_k201 (x3 == (-1)) 171 160 [(7, .int l7_95), (6, .int l6_87), (5, .int l5_87), (4, .int l4_95), (0, .ref 116), (1, .int x1), (2, .int x2), (3, .int x3)] [] (by rfl) (fun c => ?_) (fun c => ?_)
                            ·
                              have c102 : x3.toInt = ((-1) : Int32).toInt := kd_eq c; clear c
                              exact (toh86 c102 z80.1 ktohm1).elim
                            ·
                              have c103 : x3.toInt ≠ ((-1) : Int32).toInt := kd_eqF c; clear c
                              refine ft_go mi_k201 4 167 [(7, .int l7_95), (6, .int l6_87), (5, .int l5_87), (4, .int l4_95), (0, .ref 116), (1, .int x1), (2, .int x2), (3, .int x3)] [.int x3, .ref 118, .int l5_87] i95 a95 q95 r95 (by rfl) ?_
                              refine ko_iald3 mi_k201.1 (n := 31) (c := 31) (ax := (0, 0, 0, 0, 0)) (mi_k201.2 _ _ (by rfl)) (by rfl) (ksG118 _ _ _ _) (hG99.I.2.1 118) rfl (toh10 z80.1) (toh88 fi_7424.2 z80.2) ?_
                              have r104 : ((x3.toInt = 18 → (0 : Int) ≤ ((a95 118).getD x3.toNatClampNeg 0).toInt ∧ ((a95 118).getD x3.toNatClampNeg 0).toInt ≤ 5)) ∧ ((19 ≤ x3.toInt → x3.toInt ≤ 24 → (0 : Int) ≤ ((a95 118).getD x3.toNatClampNeg 0).toInt ∧ ((a95 118).getD x3.toNatClampNeg 0).toInt ≤ 7)) := kE_ncond (p := 118) hG99.I (by decide) (j := x3) (toh10 z80.1)
                              have b105 : ((-2147483648 : Int) ≤ l5_87.toInt) ∧ (l5_87.toInt ≤ 2147483647) := kd_bd l5_87
                              have b106 : ((-2147483648 : Int) ≤ ((a95 118).getD x3.toNatClampNeg 0).toInt) ∧ (((a95 118).getD x3.toNatClampNeg 0).toInt ≤ 2147483647) := kd_bd ((a95 118).getD x3.toNatClampNeg 0)
                              refine ft_go mi_k201 6 177 [(5, .int (l5_87 + ((a95 118).getD x3.toNatClampNeg 0))), (7, .int l7_95), (6, .int l6_87), (4, .int l4_95), (0, .ref 116), (1, .int x1), (2, .int x2), (3, .int x3)] [.int 0, .ref 139, .ref 116] i95 a95 q95 r95 (by rfl) ?_
                              refine ko_callN mi_k201.1 (pc := 177) (ls := [(5, .int (l5_87 + ((a95 118).getD x3.toNatClampNeg 0))), (7, .int l7_95), (6, .int l6_87), (4, .int l4_95), (0, .ref 116), (1, .int x1), (2, .int x2), (3, .int x3)]) (st := [.int 0, .ref 139, .ref 116]) (h := ks i95 a95 q95 r95) (i := (.invokevirtual 273, 3, 169, 0, 9, 0, 423)) (mi_k201.2 _ _ (by rfl)) (ft_invS mi_pq169 (by rfl)) (cy := mi_c169) mi_pq169 rfl (ke169_116_139 hG99.I hG99.R 0 (toh25 ktoh0)) (by decide) ?_
                              intro ig107 ag107 qg107 rg107 kg107 hg107
                              have hGg107 := kG_call hG99 kg107 (by decide +kernel)
                              obtain ⟨hg107, og107⟩ := hg107
                              have tG108 : gT ig107 ag107 = (a 118, ((gDm (gKn i a) (i 7424) (dRm x2 100) (gDr (gKn i a) (i 7424) (dRm x2 100) (dRm (x2 / 100) 100).toInt.toNat x3 (a 118) x1 (gR i a) l6_87.toInt.toNat).2 (dRm (x2 / 100) 100).toInt.toNat).2).2) := (gT_lay tG101 (og107.trans (show a95 139 = a 118 from (by first | rfl | (simp only [O95_2, sMn, sMx]; done) | (simp only [O95_2, sMn, sMx]; rfl)))) (kg107.fi 7464 rfl) (kg107.fi 7465 rfl) (kg107.fi 7466 rfl) (kg107.fi 7467 rfl) (kg107.fa 141 rfl))
                              have q109 : ag107 118 = a95 139 := og107
                              have s110 : (l6_87 + 1).toInt = l6_87.toInt + (1 : Int32).toInt := kd_add (toh16 p87_0 ktoh1) (toh40 c92 z9.2 ktoh30 ktoh1)
                              refine ft_go mi_k201 2 71 [(6, .int (l6_87 + 1)), (5, .int (l5_87 + ((a95 118).getD x3.toNatClampNeg 0))), (7, .int l7_95), (4, .int l4_95), (0, .ref 116), (1, .int x1), (2, .int x2), (3, .int x3)] [] ig107 ag107 qg107 rg107 (by rfl) ?_
                              refine ko_perm [(6, .int (l6_87 + 1)), (5, .int (l5_87 + ((a95 118).getD x3.toNatClampNeg 0))), (4, .int l4_95), (0, .ref 116), (1, .int x1), (2, .int x2), (3, .int x3)] (List.forall_mem_cons.mpr ⟨(List.Mem.head _), (List.forall_mem_cons.mpr ⟨(List.Mem.tail _ (List.Mem.head _)), (List.forall_mem_cons.mpr ⟨(List.Mem.tail _ (List.Mem.tail _ (List.Mem.tail _ (List.Mem.head _)))), (List.forall_mem_cons.mpr ⟨(List.Mem.tail _ (List.Mem.tail _ (List.Mem.tail _ (List.Mem.tail _ (List.Mem.head _))))), (List.forall_mem_cons.mpr ⟨(List.Mem.tail _ (List.Mem.tail _ (List.Mem.tail _ (List.Mem.tail _ (List.Mem.tail _ (List.Mem.head _)))))), (List.forall_mem_cons.mpr ⟨(List.Mem.tail _ (List.Mem.tail _ (List.Mem.tail _ (List.Mem.tail _ (List.Mem.tail _ (List.Mem.tail _ (List.Mem.head _))))))), (List.forall_mem_cons.mpr ⟨(List.Mem.tail _ (List.Mem.tail _ (List.Mem.tail _ (List.Mem.tail _ (List.Mem.tail _ (List.Mem.tail _ (List.Mem.tail _ (List.Mem.head _)))))))), (fun _ h => absurd h List.not_mem_nil)⟩)⟩)⟩)⟩)⟩)⟩)⟩) ?_
                              have fig107_7424 : ((0 : Int) ≤ (ig107 7424).toInt) ∧ ((ig107 7424).toInt ≤ 8) := hGg107.I.1 7424
                              have efig107_7424 : (ig107 7424).toInt = (i95 7424).toInt := kg107.ti 7424 rfl
                              exact ih87 _ _ _ _ _ _ _ hGg107 (toh18 p87_0 s110 ktoh1) (toh41 c92 s110 s7 ktoh1) (toh42 c94 efi95_7424 efig107_7424 ktoh0) (toh89 efi87_7424 efi95_7424 efig107_7424 efig81_7424) (gDr_pu (m := (dRm (x2 / 100) 100).toInt.toNat) (dk := dRm x2 100) O87_1 zD100 (toh10 p87_0) (toh21 s110 ktoh1) (toh83 z80.1) (gT_pu tG101)).2.1 (gDr_pu (m := (dRm (x2 / 100) 100).toInt.toNat) (dk := dRm x2 100) O87_1 zD100 (toh10 p87_0) (toh21 s110 ktoh1) (toh83 z80.1) (gT_pu tG101)).1 (gT_c tG108 (gDr_pu (m := (dRm (x2 / 100) 100).toInt.toNat) (dk := dRm x2 100) O87_1 zD100 (toh10 p87_0) (toh21 s110 ktoh1) (toh83 z80.1) (gT_pu tG101)).2.2) (by first | rfl | (simp only [q109, O95_2, sMn, sMx]; done) | (simp only [q109, O95_2, sMn, sMx]; rfl)) (by first | rfl | (simp only [kg107.fa 139 rfl, O95_2, sMn, sMx]; done) | (simp only [kg107.fa 139 rfl, O95_2, sMn, sMx]; rfl)) (kj_meas (toh44 s110 ktoh1) (toh45 c92 s7) hm87)
                          ·
                            have c111 : l7_95.toInt < ((x2 / 100) - (x2 / 100) / 100 * 100).toInt := kd_leF c; clear c
                            have b112 : ((-2147483648 : Int) ≤ l4_95.toInt) ∧ (l4_95.toInt ≤ 2147483647) := kd_bd l4_95
                            have b113 : ((-2147483648 : Int) ≤ (l4_95 * 1103515245).toInt) ∧ ((l4_95 * 1103515245).toInt ≤ 2147483647) := kd_bd (l4_95 * 1103515245)
                            have s114 : (0 : Int) ≤ ((((l4_95 * 1103515245) + 12345).toUInt32 >>> ((16 : Int32).toUInt32 &&& Int32.toUInt32 31)).toInt32).toInt := kd_ushr 16 (by decide) (by decide) (by decide)
                            have s115 : (((((l4_95 * 1103515245) + 12345).toUInt32 >>> ((16 : Int32).toUInt32 &&& Int32.toUInt32 31)).toInt32) - ((((l4_95 * 1103515245) + 12345).toUInt32 >>> ((16 : Int32).toUInt32 &&& Int32.toUInt32 31)).toInt32) / 12 * 12).toInt = (((((l4_95 * 1103515245) + 12345).toUInt32 >>> ((16 : Int32).toUInt32 &&& Int32.toUInt32 31)).toInt32).toInt % 12) := kd_rem 12 ktoh12 (by decide) (toh10 s114)
                            refine ft_go mi_k201 14 127 [(4, .int ((l4_95 * 1103515245) + 12345)), (7, .int l7_95), (6, .int l6_87), (5, .int l5_87), (0, .ref 116), (1, .int x1), (2, .int x2), (3, .int x3)] [.int (x2 - x2 / 100 * 100), .int (((((l4_95 * 1103515245) + 12345).toUInt32 >>> ((16 : Int32).toUInt32 &&& Int32.toUInt32 31)).toInt32) - ((((l4_95 * 1103515245) + 12345).toUInt32 >>> ((16 : Int32).toUInt32 &&& Int32.toUInt32 31)).toInt32) / 12 * 12)] i95 a95 q95 r95 (by rfl) ?_
                            refine ft_if mi_k201 (decide ((x2 - x2 / 100 * 100) ≤ (((((l4_95 * 1103515245) + 12345).toUInt32 >>> ((16 : Int32).toUInt32 &&& Int32.toUInt32 31)).toInt32) - ((((l4_95 * 1103515245) + 12345).toUInt32 >>> ((16 : Int32).toUInt32 &&& Int32.toUInt32 31)).toInt32) / 12 * 12))) 134 130 [(4, .int ((l4_95 * 1103515245) + 12345)), (7, .int l7_95), (6, .int l6_87), (5, .int l5_87), (0, .ref 116), (1, .int x1), (2, .int x2), (3, .int x3)] [] (by rfl) (fun c => ?_) (fun c => ?_)
                            ·
                              have c116 : (x2 - x2 / 100 * 100).toInt ≤ (((((l4_95 * 1103515245) + 12345).toUInt32 >>> ((16 : Int32).toUInt32 &&& Int32.toUInt32 31)).toInt32) - ((((l4_95 * 1103515245) + 12345).toUInt32 >>> ((16 : Int32).toUInt32 &&& Int32.toUInt32 31)).toInt32) / 12 * 12).toInt := kd_le c; clear c
                              have s117 : (0 : Int) ≤ ((((l4_95 * 1103515245) + 12345).toUInt32 >>> ((8 : Int32).toUInt32 &&& Int32.toUInt32 31)).toInt32).toInt := kd_ushr 8 (by decide) (by decide) (by decide)
                              refine ft_go mi_k201 6 144 [(4, .int ((l4_95 * 1103515245) + 12345)), (7, .int l7_95), (6, .int l6_87), (5, .int l5_87), (0, .ref 116), (1, .int x1), (2, .int x2), (3, .int x3)] [.int (i95 7424), .int ((((l4_95 * 1103515245) + 12345).toUInt32 >>> ((8 : Int32).toUInt32 &&& Int32.toUInt32 31)).toInt32), .ref 116] i95 a95 q95 r95 (by rfl) ?_
                              have s118 : ((0 : Int) ≤ (((((l4_95 * 1103515245) + 12345).toUInt32 >>> ((8 : Int32).toUInt32 &&& Int32.toUInt32 31)).toInt32) - ((((l4_95 * 1103515245) + 12345).toUInt32 >>> ((8 : Int32).toUInt32 &&& Int32.toUInt32 31)).toInt32) / (i95 7424) * (i95 7424)).toInt) ∧ ((((((l4_95 * 1103515245) + 12345).toUInt32 >>> ((8 : Int32).toUInt32 &&& Int32.toUInt32 31)).toInt32) - ((((l4_95 * 1103515245) + 12345).toUInt32 >>> ((8 : Int32).toUInt32 &&& Int32.toUInt32 31)).toInt32) / (i95 7424) * (i95 7424)).toInt < (i95 7424).toInt) := kd_remv (toh47 c94 efi95_7424 ktoh0) (toh10 s117)
                              refine ko_irem mi_k201.1 (ax := (0, 0, 0, 0, 0)) (mi_k201.2 _ _ (by rfl)) (toh46 c94 efi95_7424 ktoh0) ?_
                              have hG119 := kG_call hL87 hL95 (by decide +kernel)
                              have hG120 := kG_call hGg81 hG119 (by decide +kernel)
                              refine ko_callI mi_k201.1 (pc := 145) (ls := [(4, .int ((l4_95 * 1103515245) + 12345)), (7, .int l7_95), (6, .int l6_87), (5, .int l5_87), (0, .ref 116), (1, .int x1), (2, .int x2), (3, .int x3)]) (st := [.int (((((l4_95 * 1103515245) + 12345).toUInt32 >>> ((8 : Int32).toUInt32 &&& Int32.toUInt32 31)).toInt32) - ((((l4_95 * 1103515245) + 12345).toUInt32 >>> ((8 : Int32).toUInt32 &&& Int32.toUInt32 31)).toInt32) / (i95 7424) * (i95 7424)), .ref 116]) (h := ks i95 a95 q95 r95) (i := (.invokevirtual 260, 3, 166, 0, 9, 0, 415)) (mi_k201.2 _ _ (by rfl)) (ft_invS mi_pq166 (by rfl)) (cy := mi_c166) mi_pq166 rfl (kg166_116 hL95.I hL95.R (((((l4_95 * 1103515245) + 12345).toUInt32 >>> ((8 : Int32).toUInt32 &&& Int32.toUInt32 31)).toInt32) - ((((l4_95 * 1103515245) + 12345).toUInt32 >>> ((8 : Int32).toUInt32 &&& Int32.toUInt32 31)).toInt32) / (i95 7424) * (i95 7424)) (toh48 fi95_7424.2 s118.1 s118.2) (kCode_of (i1 := i95) hE_code (hG120.fi 7432 rfl) (hG120.fa 120 rfl) (hG120.fa 121 rfl) (hG120.fa 122 rfl) (hG120.fa 123 rfl))) (by decide) ?_
                              intro vg121 ig121 ag121 qg121 rg121 kg121 hg121
                              have hGg121 := kG_call hL95 kg121 (by decide +kernel)
                              obtain ⟨hg121, og121⟩ := hg121
                              have oG122 := og121
                              have hG123 := kG_call hL87 hL95 (by decide +kernel)
                              have hG124 := kG_call hGg81 hG123 (by decide +kernel)
                              rw [(gKn_fr hG124 (by decide +kernel) : gKn i95 a95 = gKn i a), (O95_1 : gT i95 a95 = (gDm (gKn i a) (i 7424) (dRm x2 100) (gDr (gKn i a) (i 7424) (dRm x2 100) (dRm (x2 / 100) 100).toInt.toNat x3 (a 118) x1 (gR i a) l6_87.toInt.toNat).2 l7_95.toInt.toNat).2)] at oG122
                              have tG125 : gT ig121 ag121 = gIn (gKn i a) (((((l4_95 * 1103515245) + 12345).toUInt32 >>> ((8 : Int32).toUInt32 &&& Int32.toUInt32 31)).toInt32) - ((((l4_95 * 1103515245) + 12345).toUInt32 >>> ((8 : Int32).toUInt32 &&& Int32.toUInt32 31)).toInt32) / (i95 7424) * (i95 7424)) ((gDm (gKn i a) (i 7424) (dRm x2 100) (gDr (gKn i a) (i 7424) (dRm x2 100) (dRm (x2 / 100) 100).toInt.toNat x3 (a 118) x1 (gR i a) l6_87.toInt.toNat).2 l7_95.toInt.toNat).2) := oG122
                              have s126 : (l7_95 + 1).toInt = l7_95.toInt + (1 : Int32).toInt := kd_add (toh16 p95_0 ktoh1) (toh49 c111 s11 ktoh1)
                              refine ft_go mi_k201 3 91 [(7, .int (l7_95 + 1)), (4, .int ((l4_95 * 1103515245) + 12345)), (6, .int l6_87), (5, .int l5_87), (0, .ref 116), (1, .int x1), (2, .int x2), (3, .int x3)] [] ig121 ag121 qg121 rg121 (by rfl) ?_
                              refine ko_perm [(7, .int (l7_95 + 1)), (6, .int l6_87), (5, .int l5_87), (4, .int ((l4_95 * 1103515245) + 12345)), (0, .ref 116), (1, .int x1), (2, .int x2), (3, .int x3)] (List.forall_mem_cons.mpr ⟨(List.Mem.head _), (List.forall_mem_cons.mpr ⟨(List.Mem.tail _ (List.Mem.tail _ (List.Mem.head _))), (List.forall_mem_cons.mpr ⟨(List.Mem.tail _ (List.Mem.tail _ (List.Mem.tail _ (List.Mem.head _)))), (List.forall_mem_cons.mpr ⟨(List.Mem.tail _ (List.Mem.head _)), (List.forall_mem_cons.mpr ⟨(List.Mem.tail _ (List.Mem.tail _ (List.Mem.tail _ (List.Mem.tail _ (List.Mem.head _))))), (List.forall_mem_cons.mpr ⟨(List.Mem.tail _ (List.Mem.tail _ (List.Mem.tail _ (List.Mem.tail _ (List.Mem.tail _ (List.Mem.head _)))))), (List.forall_mem_cons.mpr ⟨(List.Mem.tail _ (List.Mem.tail _ (List.Mem.tail _ (List.Mem.tail _ (List.Mem.tail _ (List.Mem.tail _ (List.Mem.head _))))))), (List.forall_mem_cons.mpr ⟨(List.Mem.tail _ (List.Mem.tail _ (List.Mem.tail _ (List.Mem.tail _ (List.Mem.tail _ (List.Mem.tail _ (List.Mem.tail _ (List.Mem.head _)))))))), (fun _ h => absurd h List.not_mem_nil)⟩)⟩)⟩)⟩)⟩)⟩)⟩)⟩) ?_
                              have fig121_7424 : ((0 : Int) ≤ (ig121 7424).toInt) ∧ ((ig121 7424).toInt ≤ 8) := hGg121.I.1 7424
                              have efig121_7424 : (ig121 7424).toInt = (i95 7424).toInt := kg121.ti 7424 rfl
                              exact ih95 _ _ _ _ _ _ hGg121 (toh18 p95_0 s126 ktoh1) (toh50 c111 s126 ktoh1) (toh89 efi87_7424 efi95_7424 efig121_7424 efig81_7424) (congrArg Prod.fst (gD_no (n1 := (i95 7424)) ((((hL95.fi 7424 rfl).trans (hL87.fi 7424 rfl)).trans (kg81.fi 7424 rfl)) : (i95 7424) = i 7424) O95_0 (toh10 p95_0) (toh21 s126 ktoh1) (toh51 c116))).symm (gT_c tG125 (congrArg Prod.snd (gD_no (n1 := (i95 7424)) ((((hL95.fi 7424 rfl).trans (hL87.fi 7424 rfl)).trans (kg81.fi 7424 rfl)) : (i95 7424) = i 7424) O95_0 (toh10 p95_0) (toh21 s126 ktoh1) (toh51 c116)))) (by first | rfl | (simp only [kg121.fa 139 rfl, O95_2, sMn, sMx]; done) | (simp only [kg121.fa 139 rfl, O95_2, sMn, sMx]; rfl)) (kj_meas (toh52 s126 ktoh1) (toh53 c111 s11) hm95)
                            ·
                              have c127 : (((((l4_95 * 1103515245) + 12345).toUInt32 >>> ((16 : Int32).toUInt32 &&& Int32.toUInt32 31)).toInt32) - ((((l4_95 * 1103515245) + 12345).toUInt32 >>> ((16 : Int32).toUInt32 &&& Int32.toUInt32 31)).toInt32) / 12 * 12).toInt < (x2 - x2 / 100 * 100).toInt := kd_leF c; clear c
                              refine ft_go mi_k201 1 131 [(4, .int ((l4_95 * 1103515245) + 12345)), (7, .int l7_95), (6, .int l6_87), (5, .int l5_87), (0, .ref 116), (1, .int x1), (2, .int x2), (3, .int x3)] [.ref 116] i95 a95 q95 r95 (by rfl) ?_
                              refine ko_callN mi_k201.1 (pc := 131) (ls := [(4, .int ((l4_95 * 1103515245) + 12345)), (7, .int l7_95), (6, .int l6_87), (5, .int l5_87), (0, .ref 116), (1, .int x1), (2, .int x2), (3, .int x3)]) (st := [.ref 116]) (h := ks i95 a95 q95 r95) (i := (.invokevirtual 282, 3, 167, 0, 9, 0, 426)) (mi_k201.2 _ _ (by rfl)) (ft_invS mi_pq167 (by rfl)) (cy := mi_c167) mi_pq167 rfl (ke167_116 hL95.I hL95.R ) (by decide) ?_
                              intro ig128 ag128 qg128 rg128 kg128 hg128
                              have hGg128 := kG_call hL95 kg128 (by decide +kernel)
                              obtain ⟨hg128, og128⟩ := hg128
                              have tG129 : gT ig128 ag128 = gEve ((gDm (gKn i a) (i 7424) (dRm x2 100) (gDr (gKn i a) (i 7424) (dRm x2 100) (dRm (x2 / 100) 100).toInt.toNat x3 (a 118) x1 (gR i a) l6_87.toInt.toNat).2 l7_95.toInt.toNat).2) := (gT_eve O95_1 og128 (kg128.fi 7464 rfl) (kg128.fi 7465 rfl) (kg128.fi 7466 rfl) (kg128.fi 7467 rfl) (kg128.fa 141 rfl))
                              have q130 : ag128 118 = sEnds (a95 118) := og128
                              have s131 : (0 : Int) ≤ ((((l4_95 * 1103515245) + 12345).toUInt32 >>> ((8 : Int32).toUInt32 &&& Int32.toUInt32 31)).toInt32).toInt := kd_ushr 8 (by decide) (by decide) (by decide)
                              have fig128_7424 : ((0 : Int) ≤ (ig128 7424).toInt) ∧ ((ig128 7424).toInt ≤ 8) := hGg128.I.1 7424
                              have efig128_7424 : (ig128 7424).toInt = (i95 7424).toInt := kg128.ti 7424 rfl
                              refine ft_go mi_k201 6 144 [(4, .int ((l4_95 * 1103515245) + 12345)), (7, .int l7_95), (6, .int l6_87), (5, .int l5_87), (0, .ref 116), (1, .int x1), (2, .int x2), (3, .int x3)] [.int (ig128 7424), .int ((((l4_95 * 1103515245) + 12345).toUInt32 >>> ((8 : Int32).toUInt32 &&& Int32.toUInt32 31)).toInt32), .ref 116] ig128 ag128 qg128 rg128 (by rfl) ?_
                              have s132 : ((0 : Int) ≤ (((((l4_95 * 1103515245) + 12345).toUInt32 >>> ((8 : Int32).toUInt32 &&& Int32.toUInt32 31)).toInt32) - ((((l4_95 * 1103515245) + 12345).toUInt32 >>> ((8 : Int32).toUInt32 &&& Int32.toUInt32 31)).toInt32) / (ig128 7424) * (ig128 7424)).toInt) ∧ ((((((l4_95 * 1103515245) + 12345).toUInt32 >>> ((8 : Int32).toUInt32 &&& Int32.toUInt32 31)).toInt32) - ((((l4_95 * 1103515245) + 12345).toUInt32 >>> ((8 : Int32).toUInt32 &&& Int32.toUInt32 31)).toInt32) / (ig128 7424) * (ig128 7424)).toInt < (ig128 7424).toInt) := kd_remv (toh71 c94 efi95_7424 efig128_7424 ktoh0) (toh10 s131)
                              refine ko_irem mi_k201.1 (ax := (0, 0, 0, 0, 0)) (mi_k201.2 _ _ (by rfl)) (toh70 c94 efi95_7424 efig128_7424 ktoh0) ?_
                              have hG133 := kG_call hL87 hGg128 (by decide +kernel)
                              have hG134 := kG_call hGg81 hG133 (by decide +kernel)
                              refine ko_callI mi_k201.1 (pc := 145) (ls := [(4, .int ((l4_95 * 1103515245) + 12345)), (7, .int l7_95), (6, .int l6_87), (5, .int l5_87), (0, .ref 116), (1, .int x1), (2, .int x2), (3, .int x3)]) (st := [.int (((((l4_95 * 1103515245) + 12345).toUInt32 >>> ((8 : Int32).toUInt32 &&& Int32.toUInt32 31)).toInt32) - ((((l4_95 * 1103515245) + 12345).toUInt32 >>> ((8 : Int32).toUInt32 &&& Int32.toUInt32 31)).toInt32) / (ig128 7424) * (ig128 7424)), .ref 116]) (h := ks ig128 ag128 qg128 rg128) (i := (.invokevirtual 260, 3, 166, 0, 9, 0, 415)) (mi_k201.2 _ _ (by rfl)) (ft_invS mi_pq166 (by rfl)) (cy := mi_c166) mi_pq166 rfl (kg166_116 hGg128.I hGg128.R (((((l4_95 * 1103515245) + 12345).toUInt32 >>> ((8 : Int32).toUInt32 &&& Int32.toUInt32 31)).toInt32) - ((((l4_95 * 1103515245) + 12345).toUInt32 >>> ((8 : Int32).toUInt32 &&& Int32.toUInt32 31)).toInt32) / (ig128 7424) * (ig128 7424)) (toh48 fig128_7424.2 s132.1 s132.2) (kCode_of (i1 := ig128) hE_code (hG134.fi 7432 rfl) (hG134.fa 120 rfl) (hG134.fa 121 rfl) (hG134.fa 122 rfl) (hG134.fa 123 rfl))) (by decide) ?_
                              intro vg135 ig135 ag135 qg135 rg135 kg135 hg135
                              have hGg135 := kG_call hGg128 kg135 (by decide +kernel)
                              obtain ⟨hg135, og135⟩ := hg135
                              have oG136 := og135
                              have hG137 := kG_call hL87 hGg128 (by decide +kernel)
                              have hG138 := kG_call hGg81 hG137 (by decide +kernel)
                              rw [(gKn_fr hG138 (by decide +kernel) : gKn ig128 ag128 = gKn i a), (tG129 : gT ig128 ag128 = gEve ((gDm (gKn i a) (i 7424) (dRm x2 100) (gDr (gKn i a) (i 7424) (dRm x2 100) (dRm (x2 / 100) 100).toInt.toNat x3 (a 118) x1 (gR i a) l6_87.toInt.toNat).2 l7_95.toInt.toNat).2))] at oG136
                              have tG139 : gT ig135 ag135 = gIn (gKn i a) (((((l4_95 * 1103515245) + 12345).toUInt32 >>> ((8 : Int32).toUInt32 &&& Int32.toUInt32 31)).toInt32) - ((((l4_95 * 1103515245) + 12345).toUInt32 >>> ((8 : Int32).toUInt32 &&& Int32.toUInt32 31)).toInt32) / (ig128 7424) * (ig128 7424)) (gEve ((gDm (gKn i a) (i 7424) (dRm x2 100) (gDr (gKn i a) (i 7424) (dRm x2 100) (dRm (x2 / 100) 100).toInt.toNat x3 (a 118) x1 (gR i a) l6_87.toInt.toNat).2 l7_95.toInt.toNat).2)) := oG136
                              have s140 : (l7_95 + 1).toInt = l7_95.toInt + (1 : Int32).toInt := kd_add (toh16 p95_0 ktoh1) (toh49 c111 s11 ktoh1)
                              refine ft_go mi_k201 3 91 [(7, .int (l7_95 + 1)), (4, .int ((l4_95 * 1103515245) + 12345)), (6, .int l6_87), (5, .int l5_87), (0, .ref 116), (1, .int x1), (2, .int x2), (3, .int x3)] [] ig135 ag135 qg135 rg135 (by rfl) ?_
                              refine ko_perm [(7, .int (l7_95 + 1)), (6, .int l6_87), (5, .int l5_87), (4, .int ((l4_95 * 1103515245) + 12345)), (0, .ref 116), (1, .int x1), (2, .int x2), (3, .int x3)] (List.forall_mem_cons.mpr ⟨(List.Mem.head _), (List.forall_mem_cons.mpr ⟨(List.Mem.tail _ (List.Mem.tail _ (List.Mem.head _))), (List.forall_mem_cons.mpr ⟨(List.Mem.tail _ (List.Mem.tail _ (List.Mem.tail _ (List.Mem.head _)))), (List.forall_mem_cons.mpr ⟨(List.Mem.tail _ (List.Mem.head _)), (List.forall_mem_cons.mpr ⟨(List.Mem.tail _ (List.Mem.tail _ (List.Mem.tail _ (List.Mem.tail _ (List.Mem.head _))))), (List.forall_mem_cons.mpr ⟨(List.Mem.tail _ (List.Mem.tail _ (List.Mem.tail _ (List.Mem.tail _ (List.Mem.tail _ (List.Mem.head _)))))), (List.forall_mem_cons.mpr ⟨(List.Mem.tail _ (List.Mem.tail _ (List.Mem.tail _ (List.Mem.tail _ (List.Mem.tail _ (List.Mem.tail _ (List.Mem.head _))))))), (List.forall_mem_cons.mpr ⟨(List.Mem.tail _ (List.Mem.tail _ (List.Mem.tail _ (List.Mem.tail _ (List.Mem.tail _ (List.Mem.tail _ (List.Mem.tail _ (List.Mem.head _)))))))), (fun _ h => absurd h List.not_mem_nil)⟩)⟩)⟩)⟩)⟩)⟩)⟩)⟩) ?_
                              have fig135_7424 : ((0 : Int) ≤ (ig135 7424).toInt) ∧ ((ig135 7424).toInt ≤ 8) := hGg135.I.1 7424
                              have efig135_7424 : (ig135 7424).toInt = (ig128 7424).toInt := kg135.ti 7424 rfl
                              exact ih95 _ _ _ _ _ _ hGg135 (toh18 p95_0 s140 ktoh1) (toh50 c111 s140 ktoh1) (toh90 efi87_7424 efi95_7424 efig128_7424 efig135_7424 efig81_7424) (congrArg Prod.fst (gD_yes (n1 := (ig128 7424)) (((((kg128.fi 7424 rfl).trans (hL95.fi 7424 rfl)).trans (hL87.fi 7424 rfl)).trans (kg81.fi 7424 rfl)) : (ig128 7424) = i 7424) O95_0 (toh10 p95_0) (toh21 s140 ktoh1) (toh73 c127))).symm (gT_c tG139 (congrArg Prod.snd (gD_yes (n1 := (ig128 7424)) (((((kg128.fi 7424 rfl).trans (hL95.fi 7424 rfl)).trans (hL87.fi 7424 rfl)).trans (kg81.fi 7424 rfl)) : (ig128 7424) = i 7424) O95_0 (toh10 p95_0) (toh21 s140 ktoh1) (toh73 c127)))) (by first | rfl | (simp only [kg135.fa 139 rfl, kg128.fa 139 rfl, O95_2, sMn, sMx]; done) | (simp only [kg135.fa 139 rfl, kg128.fa 139 rfl, O95_2, sMn, sMx]; rfl)) (kj_meas (toh52 s140 ktoh1) (toh53 c111 s11) hm95)
                      exact lp95 _ _ _ _ _ _ _ (kG_self _ hL87.I hL87.R) (toh24 ktoh0) (toh74 z13.1 ktoh1 ktoh0) (toh75 efi87_7424 efig81_7424) (O87_0.trans (congrArg Prod.fst (gDm_0 ktoh0)).symm) (gT_c O87_2 (congrArg Prod.snd (gDm_0 ktoh0))) (by first | rfl | (simp only [O87_4, sMn, sMx]; done) | (simp only [O87_4, sMn, sMx]; rfl)) (Nat.lt_succ_self _)
              have fig81_7424 : ((0 : Int) ≤ (ig81 7424).toInt) ∧ ((ig81 7424).toInt ≤ 8) := hGg81.I.1 7424
              have efig81_7424 : (ig81 7424).toInt = (i 7424).toInt := kg81.ti 7424 rfl
              exact lp87 _ _ _ _ _ _ _ _ (kG_self _ hGg81.I hGg81.R) (toh24 ktoh0) (toh76 s7 z9.1 ktoh1 ktoh0) (toh77 ktoh0) (toh78 efig81_7424) (congrArg (fun z => z.2.1) (gDr_0 ktoh0)).symm (congrArg Prod.fst (gDr_0 ktoh0)).symm (gT_c tG82 (congrArg (fun z => z.2.2) (gDr_0 ktoh0))) (by first | rfl | (simp only [q84, sMn, sMx]; done) | (simp only [q84, sMn, sMx]; rfl)) (by first | rfl | (simp only [q83, sMn, sMx]; done) | (simp only [q83, sMn, sMx]; rfl)) (Nat.lt_succ_self _)
            ·
              subst eg79
              have fi_7424 : ((0 : Int) ≤ (i 7424).toInt) ∧ ((i 7424).toInt ≤ 8) := hG.I.1 7424
              have z141 : ¬ (((0 : Int) ≤ x3.toInt) ∧ (x3.toInt < (i 7424).toInt)) := hg79
              refine ft_go mi_k201 2 57 [(0, .ref 116), (1, .int x1), (2, .int x2), (3, .int x3)] [.int (-1)] i a q r (by rfl) ?_
              exact ft_ret mi_k201 (by rfl) (hP (-1) _ _ _ _ hG ⟨trivial, ⟨(show a 118 = a 118 from rfl), (Or.inl ⟨(toh91 c78 z141 ktohm1), rfl⟩)⟩⟩)
      ·
        subst eg12
        have z142 : ¬ (((1 : Int32).toInt ≤ ((x2 / 100) - (x2 / 100) / 100 * 100).toInt) ∧ (((x2 / 100) - (x2 / 100) / 100 * 100).toInt ≤ (60 : Int32).toInt)) := hg12
        refine ft_go mi_k201 2 57 [(0, .ref 116), (1, .int x1), (2, .int x2), (3, .int x3)] [.int (-1)] i a q r (by rfl) ?_
        have s143 : (x2 - x2 / 100 * 100).toInt = (x2.toInt % 100) := kd_rem 100 ktoh100 (by decide) (toh1 c6 ktoh0)
        have fi_7424 : ((0 : Int) ≤ (i 7424).toInt) ∧ ((i 7424).toInt ≤ 8) := hG.I.1 7424
        exact ft_ret mi_k201 (by rfl) (hP (-1) _ _ _ _ hG ⟨trivial, ⟨(show a 118 = a 118 from rfl), (Or.inl ⟨(toh92 z142 ktoh1 ktoh60), rfl⟩)⟩⟩)
    ·
      subst eg8
      have z144 : ¬ (((1 : Int32).toInt ≤ (x2 / 10000).toInt) ∧ ((x2 / 10000).toInt ≤ (30 : Int32).toInt)) := hg8
      refine ft_go mi_k201 2 57 [(0, .ref 116), (1, .int x1), (2, .int x2), (3, .int x3)] [.int (-1)] i a q r (by rfl) ?_
      have s145 : (x2 / 100).toInt = (x2.toInt / 100) := kd_div 100 ktoh100 (by decide) (toh1 c6 ktoh0)
      have s146 : ((x2 / 100) - (x2 / 100) / 100 * 100).toInt = ((x2 / 100).toInt % 100) := kd_rem 100 ktoh100 (by decide) (toh5 c6 s145 ktoh0)
      have s147 : (x2 - x2 / 100 * 100).toInt = (x2.toInt % 100) := kd_rem 100 ktoh100 (by decide) (toh1 c6 ktoh0)
      have fi_7424 : ((0 : Int) ≤ (i 7424).toInt) ∧ ((i 7424).toInt ≤ 8) := hG.I.1 7424
      exact ft_ret mi_k201 (by rfl) (hP (-1) _ _ _ _ hG ⟨trivial, ⟨(show a 118 = a 118 from rfl), (Or.inl ⟨(toh93 z144 ktoh1 ktoh30), rfl⟩)⟩⟩)
