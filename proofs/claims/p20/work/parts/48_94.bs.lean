/-! BUYERS FROM A ROW: the market stays alike -/
section BS
variable {i i1 i2 : Nat → Int32} {a a1 a2 : Nat → List Int32} {q q1 q2 : Nat → List Int64} {r r1 r2 : Nat → Nat} {u1 u2 x1 x2 x3 : Int32}
theorem bs_start (hI : kI i a q) (h : kMar i a r) : bRel (i 72) (i 73) (i 450) (i 70) (i 71) (i 7426) (i 7427) (a 8) (a 9) (i 64, a 2, a 3, a 4, a 5, a 6) (i 7424, a 118, a 117) := by
  obtain ⟨h1, h2, h3, h4, h5, h6, h7, h8⟩ := h
  exact ⟨h1, kI_64 hI, h2, h3, h6, kl_2 hI, kl_3 hI, kl_4 hI, kl_5 hI, kl_6 hI, kl_118 hI, kl_117 hI⟩
theorem bs_fin {w1 w2 : kW} (hr : kr r) (h : kMar i a r) (g1 : kG w1 i a q r i1 a1 q1 r1) (g2 : kG w2 i1 a1 q1 r1 i2 a2 q2 r2)
    (f1 : kUn w1 [72, 73, 450, 70, 71, 7426, 7427, 5700, 5701, 7452, 7453, 7431, 7432, 640, 643, 6400, 6403, 2, 7448, 1600, 1608, 1609, 1986, 7449] [8, 9, 14, 130, 90, 91, 92, 93, 133, 120, 121, 122, 123, 11, 12, 101, 102, 26, 30, 32, 33, 38, 131, 132] [0] = true) (f2 : kUn w2 [72, 73, 450, 70, 71, 7426, 7427, 5700, 5701, 7452, 7453, 7431, 7432, 640, 643, 6400, 6403, 2, 7448, 1600, 1608, 1609, 1986, 7449] [8, 9, 14, 130, 90, 91, 92, 93, 133, 120, 121, 122, 123, 11, 12, 101, 102, 26, 30, 32, 33, 38, 131, 132] [0] = true)
    {S : kBt} {R : kBr} (c : (i2 64, a2 2, a2 3, a2 4, a2 5, a2 6) = S) (d : (i2 7424, a2 118, a2 117) = R) (H : bRel (i 72) (i 73) (i 450) (i 70) (i 71) (i 7426) (i 7427) (a 8) (a 9) S R) (up : (i 64).toInt ≤ S.1.toInt) : kMar i2 a2 r2 := by
  subst c
  subst d
  obtain ⟨h1, h2, h3, h4, h5, h6, h7, h8⟩ := h
  obtain ⟨b1, b2, b3, b4, b5, _⟩ := H
  obtain ⟨p1, p2, p3⟩ := kUn_all f1
  obtain ⟨s1, s2, s3⟩ := kUn_all f2
  have F : ∀ k, k ∈ [72, 73, 450, 70, 71, 7426, 7427, 5700, 5701, 7452, 7453, 7431, 7432, 640, 643, 6400, 6403, 2, 7448, 1600, 1608, 1609, 1986, 7449] → i2 k = i k := fun k hk => (g2.fi k (s1 k hk)).trans (g1.fi k (p1 k hk))
  have A : ∀ k, k ∈ [8, 9, 14, 130, 90, 91, 92, 93, 133, 120, 121, 122, 123, 11, 12, 101, 102, 26, 30, 32, 33, 38, 131, 132] → a2 k = a k := fun k hk => (g2.fa k (s2 k hk)).trans (g1.fa k (p2 k hk))
  refine ⟨b1, ?_, ?_, ?_, ?_, b5, kLaw_of hr h7 ((g2.fr 0 (s3 0 (by decide))).trans (g1.fr 0 (p3 0 (by decide)))) (F _ (by decide)) (F _ (by decide)) (A _ (by decide)) (A _ (by decide)) (A _ (by decide)) (A _ (by decide)) (F _ (by decide)) (F _ (by decide)) (F _ (by decide)) (F _ (by decide)) (A _ (by decide)) (A _ (by decide)) (A _ (by decide)) (A _ (by decide)), ?_⟩
  · unfold kMk
    rw [F 72 (by decide), F 73 (by decide), F 450 (by decide), A 8 (by decide), A 9 (by decide)]
    exact b3
  · unfold kNr
    rw [F 70 (by decide), F 71 (by decide), F 72 (by decide), F 7426 (by decide), F 7427 (by decide)]
    exact b4
  · unfold kGr
    rw [F 5700 (by decide), F 5701 (by decide), F 7452 (by decide), F 7453 (by decide), A 90 (by decide), A 91 (by decide), A 92 (by decide), A 93 (by decide), A 133 (by decide)]
    exact gRel_up up h4
  · rw [A 14 (by decide), A 130 (by decide)]; exact h5
  · unfold kIm
    rw [F 2 (by decide), F 7448 (by decide), F 1600 (by decide), F 1608 (by decide), F 1609 (by decide), F 1986 (by decide), F 7449 (by decide), A 26 (by decide), A 30 (by decide), A 32 (by decide), A 33 (by decide), A 38 (by decide), A 131 (by decide), A 132 (by decide)]
    exact ⟨h8.1, fun z => ⟨(h8.2 z).1, Int.le_trans (h8.2 z).2.1 up, (h8.2 z).2.2⟩⟩
theorem bs_t (P1 : pt_ke81_0 x1 x2 x3 u1 i a q r i1 a1 q1 r1) : ∀ t : Nat, t < 6 → x1.toInt = (t : Int) →
    (((1 : Int) ≤ x3.toInt ∧ x3.toInt ≤ 8) → ((i (6656 + 128 * t)).toInt = 0 ∧ u1.toInt = 0) ∨ ((i (6656 + 128 * t)).toInt ≠ 0 ∧ (¬ ((i (6656 + 128 * t)).toInt = 2 ∧ (i (6658 + 128 * t)).toInt = 1)) ∧ u1.toInt = -12) ∨ ((i (6656 + 128 * t)).toInt = 2 ∧ (i (6658 + 128 * t)).toInt = 1 ∧ u1.toInt = (i1 64).toInt - (i 64).toInt)) ∧
    (((1 : Int) ≤ x3.toInt ∧ x3.toInt ≤ 8 ∧ (i (6656 + 128 * t)).toInt = 2 ∧ (i (6658 + 128 * t)).toInt = 1 ∧ (0 : Int) ≤ x2.toInt ∧ x2.toInt ≤ 60) → (i1 64, a1 2, a1 3, a1 4, a1 5, a1 6) = bThr (vQ (q (105 + 2 * t)) 0) (i (6659 + 128 * t)).toInt x3.toInt.toNat x2.toInt.toNat (i 64, a 2, a 3, a 4, a 5, a 6)) ∧
    ((¬ ((1 : Int) ≤ x3.toInt ∧ x3.toInt ≤ 8 ∧ (i (6656 + 128 * t)).toInt = 2 ∧ (i (6658 + 128 * t)).toInt = 1 ∧ (0 : Int) ≤ x2.toInt ∧ x2.toInt ≤ 60)) → (i1 64, a1 2, a1 3, a1 4, a1 5, a1 6) = (i 64, a 2, a 3, a 4, a 5, a 6)) := by
  obtain ⟨⟨_, n0, n1, n2, n3, n4, n5⟩, t0, t1, t2, t3, t4, t5, s0, s1, s2, s3, s4, s5, _⟩ := P1
  intro t ht e
  match t, ht, e with
  | 0, _, e => exact ⟨fun z => n0 ⟨e, z.1, z.2⟩, fun z => t0 ⟨e, z⟩, fun z => s0 ⟨e, z⟩⟩
  | 1, _, e => exact ⟨fun z => n1 ⟨e, z.1, z.2⟩, fun z => t1 ⟨e, z⟩, fun z => s1 ⟨e, z⟩⟩
  | 2, _, e => exact ⟨fun z => n2 ⟨e, z.1, z.2⟩, fun z => t2 ⟨e, z⟩, fun z => s2 ⟨e, z⟩⟩
  | 3, _, e => exact ⟨fun z => n3 ⟨e, z.1, z.2⟩, fun z => t3 ⟨e, z⟩, fun z => s3 ⟨e, z⟩⟩
  | 4, _, e => exact ⟨fun z => n4 ⟨e, z.1, z.2⟩, fun z => t4 ⟨e, z⟩, fun z => s4 ⟨e, z⟩⟩
  | 5, _, e => exact ⟨fun z => n5 ⟨e, z.1, z.2⟩, fun z => t5 ⟨e, z⟩, fun z => s5 ⟨e, z⟩⟩
  | t + 6, h, _ => exact absurd h (by omega)
theorem bs_o (P1 : pt_ke81_0 x1 x2 x3 u1 i a q r i1 a1 q1 r1) (h : ¬ (0 ≤ x1.toInt ∧ x1.toInt ≤ 5)) : (i1 64, a1 2, a1 3, a1 4, a1 5, a1 6) = (i 64, a 2, a 3, a 4, a 5, a 6) := by
  have o := P1.2.2.2.2.2.2.2.2.2.2.2.2.2
  refine o ?_
  clear o P1
  omega
theorem bs_v {ho so hd ua ub ca cb cc : Int} {u1 u2 : Int32} (V1 : (ho = 0 ∧ u1.toInt = 0) ∨ (ho ≠ 0 ∧ (¬ (ho = 2 ∧ so = 1)) ∧ u1.toInt = -12) ∨ (ho = 2 ∧ so = 1 ∧ u1.toInt = ca - cc)) (V2 : (hd = -1 ∧ u2.toInt = 0) ∨ (hd ≠ -1 ∧ hd ≠ 1 ∧ u2.toInt = -12) ∨ (hd = 1 ∧ u2.toInt = cb - cc)) (h0 : ho = 0 → hd = -1) (h1 : ho = 1 → 10 ≤ hd) (h2 : ho = 2 → hd = so) (hr : 0 ≤ ho ∧ ho ≤ 2) (hs : 0 ≤ so) (e : ca = cb) (_ : ua = ub ∨ ua ≠ ub) : u1 = u2 := kj_v (by
  have h3 : ho = 0 ∨ ho = 1 ∨ ho = 2 := by omega
  rcases h3 with h3 | h3 | h3
  · have := h0 h3
    clear h0 h1 h2
    omega
  · have := h1 h3
    clear h0 h1 h2
    omega
  · have := h2 h3
    clear h0 h1 h2
    omega)
set_option maxHeartbeats 4000000 in
theorem st_buyers (K : kAll i a q r) (h : kMar i a r) (g1 : kG yw81_0 i a q r i1 a1 q1 r1) (P1 : pt_ke81_0 x1 x2 x3 u1 i a q r i1 a1 q1 r1) (g2 : kG yw136_116 i1 a1 q1 r1 i2 a2 q2 r2) (P2 : pt_ke136_116 x1 x2 x3 u2 i1 a1 q1 r1 i2 a2 q2 r2) : kMar i2 a2 r2 ∧ u1 = u2 := by
  have hI := K.1.1
  have hr := K.1.2
  have P2 : pt_ke136_116 x1 x2 x3 u2 i a q r i2 a2 q2 r2 := by
    unfold pt_ke136_116 at P2 ⊢
    simp only [g1.fi 7424 rfl, g1.fa 117 rfl, g1.fa 118 rfl, g1.fa 136 rfl, g1.fa 137 rfl, g1.fq 138 rfl] at P2
    exact P2
  have H0 := bs_start hI h
  have e64 : i2 64 = i1 64 := g2.fi 64 rfl
  have C : (i2 64, a2 2, a2 3, a2 4, a2 5, a2 6) = (i1 64, a1 2, a1 3, a1 4, a1 5, a1 6) := kT6b e64 (g2.fa 2 rfl) (g2.fa 3 rfl) (g2.fa 4 rfl) (g2.fa 5 rfl) (g2.fa 6 rfl)
  have fin : ∀ {S : kBt} {R : kBr}, (i1 64, a1 2, a1 3, a1 4, a1 5, a1 6) = S → (i2 7424, a2 118, a2 117) = R → bRel (i 72) (i 73) (i 450) (i 70) (i 71) (i 7426) (i 7427) (a 8) (a 9) S R → (i 64).toInt ≤ S.1.toInt → kMar i2 a2 r2 := fun c d H up => bs_fin hr h g1 g2 (by decide +kernel) (by decide +kernel) (C.trans c) d H up
  -- the market first; then the answers, by it
  have main : kMar i2 a2 r2 := by
    by_cases hx : 0 ≤ x1.toInt ∧ x1.toInt ≤ 5
    · obtain ⟨t, ht, et⟩ : ∃ t : Nat, t < 6 ∧ x1.toInt = (t : Int) := ⟨x1.toInt.toNat, by omega, by omega⟩
      have e1 : x1.toNatClampNeg = t := by
        have := Int32.toNat_toInt x1
        omega
      have e60 : (60 * x1.toInt).toNat = 60 * t := by omega
      have ln := kI_ln hI t ht
      by_cases cc : (1 : Int) ≤ x3.toInt ∧ x3.toInt ≤ 8 ∧ (i (6656 + 128 * t)).toInt = 2 ∧ (i (6658 + 128 * t)).toInt = 1
      · obtain ⟨c1, c2, c3, c4⟩ := cc
        obtain ⟨w1, w2, w3⟩ := (K.2.2.1 t ht).2.2 c3
        have hh : ((a 136).getD x1.toNatClampNeg 0).toInt = 1 := by rw [e1]; exact w1.trans c4
        by_cases h2 : 0 ≤ x2.toInt
        · have d := P2.2.1 ⟨hx.1, hx.2, c1, c2, hh, h2⟩
          rw [e1, e60, w2] at d
          by_cases h60 : x2.toInt ≤ 60
          · obtain ⟨T1, T2⟩ := thr_same (V := vQ (q (105 + 2 * t)) 0) (V1 := vQ (q 138) (60 * t)) (len := (i (6659 + 128 * t)).toInt) (fun j hj => by unfold vQ; rw [Nat.zero_add, w3 j hj]) x3.toInt.toNat x2.toInt.toNat _ _ H0
            exact fin ((bs_t P1 t ht et).2.1 ⟨c1, c2, c3, c4, h2, h60⟩) d T1 T2
          · have c := (bs_t P1 t ht et).2.2 (fun z => h60 z.2.2.2.2.2)
            rw [rThr_far (by omega)] at d
            exact fin c d H0 (Int.le_refl _)
        · exact fin ((bs_t P1 t ht et).2.2 (fun z => h2 z.2.2.2.2.1)) (P2.2.2 (fun z => h2 z.2.2.2.2.2)) H0 (Int.le_refl _)
      · refine fin ((bs_t P1 t ht et).2.2 (fun z => cc ⟨z.1, z.2.1, z.2.2.1, z.2.2.2.1⟩)) (P2.2.2 (fun z => ?_)) H0 (Int.le_refl _)
        obtain ⟨_, _, z3, z4, z5, _⟩ := z
        rw [e1] at z5
        obtain ⟨s0, s1, s2⟩ := K.2.2.1 t ht
        have ho := kI_ho hI t ht
        have hq : (i (6656 + 128 * t)).toInt = 0 ∨ (i (6656 + 128 * t)).toInt = 1 ∨ (i (6656 + 128 * t)).toInt = 2 := by omega
        rcases hq with hq | hq | hq
        · have := s0 hq
          rw [z5] at this
          exact absurd this (by decide)
        · have := s1 hq
          clear s0 s1 s2
          omega
        · exact cc ⟨z3, z4, hq, by rw [← (s2 hq).1]; exact z5⟩
    · exact fin (bs_o P1 hx) (P2.2.2 (fun z => hx ⟨z.1, z.2.1⟩)) H0 (Int.le_refl _)
  refine ⟨main, ?_⟩
  have ec : (i1 64).toInt = (i2 7424).toInt := by rw [← e64, main.1]
  have ec0 : (i 64).toInt = (i 7424).toInt := by rw [h.1]
  by_cases hx : 0 ≤ x1.toInt ∧ x1.toInt ≤ 5 ∧ 1 ≤ x3.toInt ∧ x3.toInt ≤ 8
  · obtain ⟨t, ht, et⟩ : ∃ t : Nat, t < 6 ∧ x1.toInt = (t : Int) := ⟨x1.toInt.toNat, by omega, by omega⟩
    have e1 : x1.toNatClampNeg = t := by
      have := Int32.toNat_toInt x1
      omega
    have V1 := (bs_t P1 t ht et).1 hx.2.2
    have V2 := P2.1.2 hx
    rw [e1, ← ec0] at V2
    obtain ⟨s0, s1, s2⟩ := K.2.2.1 t ht
    exact bs_v (ua := 0) (ub := 0) V1 V2 s0 (fun z => by have := s1 z; omega) (fun z => (s2 z).1) (kI_ho hI t ht) (kI_so hI t ht).1 ec (Or.inl rfl)
  · rw [kj_v ((P1.1.1 hx).trans (P2.1.1 hx).symm)]
end BS

