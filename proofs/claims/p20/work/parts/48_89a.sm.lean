/-! THE STEPS THAT CHANGE THE MARKET -/
section SM
variable {i i1 i2 : Nat → Int32} {a a1 a2 : Nat → List Int32} {q q1 q2 : Nat → List Int64} {r r1 r2 : Nat → Nat} {u1 u2 x1 x2 x3 : Int32}
theorem nr_mk (hn : kMk i1 a1) (h : kNr i a) (e3 : a1 3 = a 3) (e4 : a1 4 = a 4) (e5 : a1 5 = a 5) (e117 : a1 117 = a 117) (e70 : i1 70 = i 70) (e71 : i1 71 = i 71) (e26 : i1 7426 = i 7426) (e27 : i1 7427 = i 7427) : kNr i1 a1 := by
  refine ⟨hn.1, ?_, ?_, ?_, hn.2.1⟩
  · dsimp only; rw [e3, e4, e5, e117]; exact h.2.1
  · dsimp only; rw [e70, e26]; exact h.2.2.1
  · dsimp only; rw [e71, e27]; exact h.2.2.2.1
theorem ze_mk (hn : kMk i1 a1) (h0 : kMk i a) (hz : kZe i a) (eb : i1 64 = i 64) (e117 : a1 117 = a 117) (hO : ∀ j : Nat, (i 64).toInt ≤ (j : Int) → j < 8 → (a1 6).getD j 0 = (a 6).getD j 0) : kZe i1 a1 := by
  intro j hj h8
  rw [eb] at hj
  obtain ⟨z1, z2⟩ := hz j hj h8
  refine ⟨?_, by rw [e117]; exact z2⟩
  rw [← hn.2.2.2.1 j h8, hO j hj h8, h0.2.2.2.1 j h8]
  exact z1
theorem led_come {L A T : List Int32} {pd la : Int32} (hL : A.length = 5) (hA : T.length = 5) (h2 : T.getD 2 0 = A.getD 2 0 - 0 + la) (hj : ∀ j : Nat, j ≠ 2 → T.getD j 0 = A.getD j 0) (_ : L = L) :
    ((T.set (0 : Int32).toNatClampNeg (T.getD (0 : Int32).toNatClampNeg 0 + 1)).set (1 : Int32).toNatClampNeg ((T.set (0 : Int32).toNatClampNeg (T.getD (0 : Int32).toNatClampNeg 0 + 1)).getD (1 : Int32).toNatClampNeg 0 + pd)) = (((A.set (0 : Int32).toNatClampNeg (A.getD (0 : Int32).toNatClampNeg 0 + 1)).set (1 : Int32).toNatClampNeg ((A.set (0 : Int32).toNatClampNeg (A.getD (0 : Int32).toNatClampNeg 0 + 1)).getD (1 : Int32).toNatClampNeg 0 + pd)).set (2 : Int32).toNatClampNeg (((A.set (0 : Int32).toNatClampNeg (A.getD (0 : Int32).toNatClampNeg 0 + 1)).set (1 : Int32).toNatClampNeg ((A.set (0 : Int32).toNatClampNeg (A.getD (0 : Int32).toNatClampNeg 0 + 1)).getD (1 : Int32).toNatClampNeg 0 + pd)).getD (2 : Int32).toNatClampNeg 0 + la)) := by
  rw [(by decide : (0 : Int32).toNatClampNeg = 0), (by decide : (1 : Int32).toNatClampNeg = 1), (by decide : (2 : Int32).toNatClampNeg = 2)]
  match A, T, hL, hA with
  | [b0, b1, b2, b3, b4], [t0, t1, t2, t3, t4], _, _ =>
    have e0 : t0 = b0 := hj 0 (by decide)
    have e1 : t1 = b1 := hj 1 (by decide)
    have e3 : t3 = b3 := hj 3 (by decide)
    have e4 : t4 = b4 := hj 4 (by decide)
    have e2 : t2 = b2 - 0 + la := h2
    subst e0
    subst e1
    subst e3
    subst e4
    subst e2
    show [t0 + 1, t1 + pd, b2 - 0 + la, t3, t4] = [t0 + 1, t1 + pd, b2 + la, t3, t4]
    rw [Int32.sub_zero]
theorem led_dog {A : List Int32} (hL : A.length = 5) : (((A.set (1 : Int32).toNatClampNeg (A.getD (1 : Int32).toNatClampNeg 0 + 0)).set (2 : Int32).toNatClampNeg ((A.set (1 : Int32).toNatClampNeg (A.getD (1 : Int32).toNatClampNeg 0 + 0)).getD (2 : Int32).toNatClampNeg 0 + 0))) = A := by
  rw [(by decide : (1 : Int32).toNatClampNeg = 1), (by decide : (2 : Int32).toNatClampNeg = 2)]
  match A, hL with
  | [b0, b1, b2, b3, b4], _ =>
    show [b0, b1 + 0, b2 + 0, b3, b4] = [b0, b1, b2, b3, b4]
    rw [Int32.add_zero, Int32.add_zero]
set_option maxHeartbeats 4000000 in
theorem st_come (K : kI i a q ∧ kr r) (h : kMar i a r) (g1 : kG yw102_0 i a q r i1 a1 q1 r1) (P1 : pt_ke102_0 x1 u1 i a q r i1 a1 q1 r1) (g2 : kG yw202_116 i1 a1 q1 r1 i2 a2 q2 r2) (P2 : pt_ke202_116 x1 u2 i1 a1 q1 r1 i2 a2 q2 r2) : kMar i2 a2 r2 ∧ u1 = u2 := by
  obtain ⟨hI, hr⟩ := K
  obtain ⟨h1, h2, h3, h4, h5, h6, h7, h8⟩ := h
  have cn := kCn_fr g2 (by decide +kernel) (kCn_fr g1 (by decide +kernel) h1)
  have gr := kGr_fr g2 (by decide +kernel) (kGr_fr g1 (by decide +kernel) h4)
  have lw := kLaw_fr g2 (by decide +kernel) g1.R (kLaw_fr g1 (by decide +kernel) hr h7)
  have im := kIm_fr g2 (by decide +kernel) (kIm_fr g1 (by decide +kernel) h8)
  have e3 : a2 3 = a 3 := (g2.fa 3 rfl).trans (g1.fa 3 rfl)
  have e4 : a2 4 = a 4 := (g2.fa 4 rfl).trans (g1.fa 4 rfl)
  have e5 : a2 5 = a 5 := (g2.fa 5 rfl).trans (g1.fa 5 rfl)
  have e117 : a2 117 = a 117 := (g2.fa 117 rfl).trans (g1.fa 117 rfl)
  have e64 : i2 64 = i 64 := (g2.fi 64 rfl).trans (g1.fi 64 rfl)
  have e70 : i2 70 = i 70 := (g2.fi 70 rfl).trans (g1.fi 70 rfl)
  have e71 : i2 71 = i 71 := (g2.fi 71 rfl).trans (g1.fi 71 rfl)
  have e72 : i2 72 = i 72 := (g2.fi 72 rfl).trans (g1.fi 72 rfl)
  have e26 : i2 7426 = i 7426 := (g2.fi 7426 rfl).trans (g1.fi 7426 rfl)
  have e27 : i2 7427 = i 7427 := (g2.fi 7427 rfl).trans (g1.fi 7427 rfl)
  have b8 := kI_64 hI
  have o5 := kI_450 hI
  have t5 := kI_3rd hI
  have P2 : pt_ke202_116 x1 u2 i a q r i2 a2 q2 r2 := by
    unfold pt_ke202_116 at P2 ⊢
    simp only [g1.fi 7424 rfl, g1.fi 7426 rfl, g1.fi 7427 rfl, g1.fi 7431 rfl, g1.fi 7432 rfl, g1.fa 117 rfl, g1.fa 118 rfl, g1.fa 120 rfl, g1.fa 121 rfl, g1.fa 122 rfl, g1.fa 123 rfl, g1.fa 130 rfl, g1.fa 141 rfl] at P2
    exact P2
  -- where nothing changes
  have same : i1 450 = i 450 → a1 8 = a 8 → a1 9 = a 9 → a1 2 = a 2 → i1 73 = i 73 → a1 6 = a 6 → a1 14 = a 14 → a2 118 = a 118 → a2 130 = a 130 → kMar i2 a2 r2 := by
    intro s1 s2 s3 s4 s5 s6 s7 s8 s9
    have mk : kMk i2 a2 := by
      unfold kMk
      rw [e64, e72, g2.fi 73 rfl, g2.fi 450 rfl, g2.fa 2 rfl, g2.fa 6 rfl, g2.fa 8 rfl, g2.fa 9 rfl, s1, s2, s3, s4, s5, s6, s8]
      exact h2
    refine ⟨cn, mk, nr_mk mk h3 e3 e4 e5 e117 e70 e71 e26 e27, gr, ?_, ze_mk mk h2 h6 e64 e117 (fun j _ _ => by rw [g2.fa 6 rfl, s6]), lw, im⟩
    rw [g2.fa 14 rfl, s7, s9]
    exact h5
  by_cases hb : 0 ≤ x1.toInt ∧ x1.toInt < (i 64).toInt
  · have hb2 : 0 ≤ x1.toInt ∧ x1.toInt < (i 7424).toInt := by rw [← h1]; exact hb
    obtain ⟨de, dg⟩ := dog_eq h3 hb.1 (by omega : x1.toInt < 8)
    by_cases hd : (i 71).toInt = 0 ∧ ((a 5).getD x1.toNatClampNeg 0).toInt = 1
    · have hn : ¬ (((0 : Int) ≤ x1.toInt) ∧ (x1.toInt < (i 64).toInt) ∧ (¬ (((i 71).toInt = 0) ∧ (((a 5).getD x1.toNatClampNeg 0).toInt = 1)))) := fun z => z.2.2 hd
      have hq1 : ((a 117).getD (16 + x1).toNatClampNeg 0).toInt = 1 := by rw [← de]; exact hd.2
      have hq2 : (i 7427).toInt = 0 := by rw [← dg]; exact hd.1
      obtain ⟨_, _, _, _, _, _, _, _, _, n1, n2, n3, n4, n5, n6, n7, vd, vn⟩ := P1
      obtain ⟨_, _, _, _, f1, f2, fv, _⟩ := P2
      refine ⟨same (n1 hn) (n2 hn) (n3 hn) (n4 hn) (n5 hn) (n6 hn) (n7 hn) (f1 ⟨hb2.1, hb2.2, hq1, hq2⟩) ((f2 ⟨hb2.1, hb2.2, hq1, hq2⟩).trans (led_dog (kl_130 hI))), ?_⟩
      rw [vd ⟨hb.1, hb.2, hd.1, hd.2⟩, fv ⟨hb2.1, hb2.2, hq1, hq2⟩]
    · have hC : ((0 : Int) ≤ x1.toInt) ∧ (x1.toInt < (i 64).toInt) ∧ (¬ (((i 71).toInt = 0) ∧ (((a 5).getD x1.toNatClampNeg 0).toInt = 1))) := ⟨hb.1, hb.2, hd⟩
      have hC2 : ((0 : Int) ≤ x1.toInt) ∧ (x1.toInt < (i 7424).toInt) ∧ (¬ ((((a 117).getD (16 + x1).toNatClampNeg 0).toInt = 1) ∧ ((i 7427).toInt = 0))) := ⟨hb2.1, hb2.2, fun z => hd ⟨by rw [dg]; exact z.2, by rw [de]; exact z.1⟩⟩
      have c1 := P1.2.1 hC
      have c2 := P1.2.2.1 hC
      have c3 := P1.2.2.2.1 hC
      have c4 := P1.2.2.2.2.1 hC
      have c5 := P1.2.2.2.2.2.1 hC
      have c6 := P1.2.2.2.2.2.2.1 hC
      have c7 := P1.2.2.2.2.2.2.2.1 hC
      have c8 := P1.2.2.2.2.2.2.2.2.1 hC
      have d1 := P2.2.1 hC2
      have d2 := P2.2.2.1 hC2
      have dv := P2.2.2.2.1 hC2
      clear P1 P2
      have t3 : i 70 = i 7426 := h3.2.2.1
      have op : i 450 = (a 118).getD 18 0 := mNow_18 h2
      have tb := Int32.toNat_toInt x1
      obtain ⟨p1, p2, _⟩ := paid_same (b := i 64) (c := x1) (t3 := i 7426) b8.2 hb.1 hb.2 t5.1 5 ((a 118).getD 18 0).toInt.toNat (cT0 1 i a) (a 118, 8, 0, 0, a 141) (mP_start hI h2 (la := 0)) (show (i 450).toInt ≤ 5 by omega) (show (i 450).toInt ≤ (((a 118).getD 18 0).toInt.toNat : Int) by rw [op] at o5 ⊢; omega) (show (i 450).toInt ≤ 5 by omega) (show 0 ≤ (i 450).toInt by omega)
      rw [t3] at c1 c2 c3 c4 c7 c8
      have eg : gPaid (i 7426) x1 (a 118) 0 (a 141) = sPaid (i 7426) x1 ((a 118).getD 18 0).toInt.toNat (a 118, 8, 0, 0, a 141) := rfl
      rw [eg] at d1 d2 dv
      generalize cPaid (i 64) (i 7426) x1 5 (cT0 1 i a) = T1 at *
      generalize sPaid (i 7426) x1 ((a 118).getD 18 0).toInt.toNat (a 118, 8, 0, 0, a 141) = S1 at *
      obtain ⟨m1, m2, m3, m4, m5, ⟨l1, l2, l3, l4, l5⟩, m7, m8⟩ := p1
      have be := buy_eq (p := 0) (x := x1) hI hr h3 h2 h7 hb.1 (by omega) (N1 := S1.1) m1.2.2.1.symm (m1.2.2.2.1 x1.toNatClampNeg (by omega)).symm m1.2.1.symm rfl
      rw [be] at c3
      obtain ⟨z1, z2, z3⟩ := come_now (bu := gBuy (i 7431) (a 120) (a 121) (a 122) (a 123) (i 7432) (a 117) (a 118) S1.1 x1) m1 b8.2 hb.1 hb.2 p2.2 (by omega) (kl_6 hI) l1 l2 m7
      have mk : kMk i2 a2 := by
        unfold kMk
        rw [e64, e72, g2.fi 73 rfl, g2.fi 450 rfl, g2.fa 2 rfl, g2.fa 6 rfl, g2.fa 8 rfl, g2.fa 9 rfl, c1, c2, c3, c4, c5, c6, d1]
        exact z1
      refine ⟨⟨cn, mk, nr_mk mk h3 e3 e4 e5 e117 e70 e71 e26 e27, gr, ?_, ze_mk mk h2 h6 e64 e117 (fun j hj h8 => ?_), lw, im⟩, ?_⟩
      · rw [g2.fa 14 rfl, c7, d2, ← h5, m3]
        exact led_come (L := []) (kl_14 hI) l4 m4 m5 rfl
      · rw [g2.fa 6 rfl, c6, kset_gI (by rw [kl_6 hI]; omega), if_neg (by omega)]
      · rw [c8, dv]; exact m3
  · have hb2 : ¬ (0 ≤ x1.toInt ∧ x1.toInt < (i 7424).toInt) := by rw [← h1]; exact hb
    have hn : ¬ (((0 : Int) ≤ x1.toInt) ∧ (x1.toInt < (i 64).toInt) ∧ (¬ (((i 71).toInt = 0) ∧ (((a 5).getD x1.toNatClampNeg 0).toInt = 1)))) := fun z => hb ⟨z.1, z.2.1⟩
    obtain ⟨_, _, _, _, _, _, _, _, _, n1, n2, n3, n4, n5, n6, n7, vd, vn⟩ := P1
    obtain ⟨_, _, _, _, _, _, _, k1, k2, kv⟩ := P2
    refine ⟨same (n1 hn) (n2 hn) (n3 hn) (n4 hn) (n5 hn) (n6 hn) (n7 hn) (k1 hb2) (k2 hb2), ?_⟩
    rw [vn hb, kv hb2]
end SM
