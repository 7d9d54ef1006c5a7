/-! IMAGES, MENDED NUMBERS, NEW BUYERS; WHAT IS TOLD -/
theorem clamp8 {x : Int32} (h0 : 0 ≤ x.toInt) (h8 : x.toInt ≤ 8) : sMx 0 (sMn x 8) = x := by
  have k0 : (0 : Int32).toInt = 0 := by decide
  have k8 : (8 : Int32).toInt = 8 := by decide
  have e1 : sMn x 8 = x := by
    unfold sMn
    by_cases c : (8 : Int32) < x
    · have := Int32.lt_iff_toInt_lt.mp c
      omega
    · rw [decide_eq_false c]
      rfl
  rw [e1]
  unfold sMx
  by_cases c : (0 : Int32) < x
  · rw [decide_eq_true c]
    rfl
  · rw [decide_eq_false c]
    exact kj_v (by
      have : ¬ ((0 : Int32).toInt < x.toInt) := fun z => c (Int32.lt_iff_toInt_lt.mpr z)
      show (0 : Int32).toInt = x.toInt
      omega)
theorem cpy_pre {l g : List Int32} {n j : Nat} (hl : n ≤ l.length) (hg : n ≤ g.length) : (mi_cpy l g 0 0 n).getD j 0 = if j < n then l.getD j 0 else g.getD j 0 := by
  rw [cpy_g (by omega) (by omega)]
  by_cases c : j < n
  · rw [if_pos (by omega), if_pos c, show 0 + (j - 0) = j by omega]
  · rw [if_neg (by omega), if_neg c]
theorem cpy_all {l g : List Int32} {n : Nat} (hl : l.length = n) (hg : g.length = n) : mi_cpy l g 0 0 n = l :=
  kListn (n := n) (by rw [mi_cpy_len (by omega) (by omega)]; exact hg) hl (fun j hj => by rw [cpy_pre (by omega) (by omega), if_pos hj])
theorem k5N : (5 : Int32).toNatClampNeg = 5 := by decide
theorem k0N : (0 : Int32).toNatClampNeg = 0 := by decide
theorem mk_mend {b dy dy1 cm op : Int32} {P P1 O Wh Mu N N1 : List Int32} (h : mNow b P O dy cm op Wh Mu N) (hp : ∀ j : Nat, j < 8 → P1.getD j 0 = N1.getD j 0) (hd : dy1 = N1.getD 8 0) (hk : ∀ j : Nat, 9 ≤ j → N1.getD j 0 = N.getD j 0) : mNow b P1 O dy1 cm op Wh Mu N1 := by
  obtain ⟨g1, g2, g3, g4, g5, g6⟩ := h
  exact ⟨hp, hd, by rw [hk 9 (by omega)]; exact g3, fun j hj => by rw [hk (10 + j) (by omega)]; exact g4 j hj, by rw [hk 18 (by omega)]; exact g5, fun j hj => by rw [hk (19 + j) (by omega), hk (25 + j) (by omega)]; exact g6 j hj⟩
/-- a buyer more -/
theorem add_mk {b b1 pu dy cm op : Int32} {P O Wh Mu N : List Int32} (h : mNow b P O dy cm op Wh Mu N) (hz : ∀ j : Nat, b.toInt ≤ (j : Int) → j < 8 → N.getD (10 + j) 0 = 0) (h0 : 0 ≤ b.toInt) (h8 : b.toInt < 8) (e1 : b1.toInt = b.toInt + 1) (hP : P.length = 8) (hO : O.length = 8) (hN : N.length = 31) : mNow b1 (P.set b.toNatClampNeg pu) (O.set b.toNatClampNeg 0) dy cm op Wh Mu (N.set b.toNatClampNeg pu) := by
  have tb := Int32.toNat_toInt b
  obtain ⟨g1, g2, g3, g4, g5, g6⟩ := h
  have G : ∀ j : Nat, (N.set b.toNatClampNeg pu).getD j 0 = if j = b.toNatClampNeg then pu else N.getD j 0 := fun j => kset_gI (by omega)
  refine ⟨fun j hj => ?_, by rw [G, if_neg (by omega)]; exact g2, by rw [G, if_neg (by omega)]; exact g3, fun j hj => ?_, by rw [G, if_neg (by omega)]; exact g5, fun j hj => ?_⟩
  · rw [G, kset_gI (by omega), g1 j hj]
  · rw [G, if_neg (by omega), kset_gI (by omega)]
    by_cases c : j = b.toNatClampNeg
    · rw [if_pos c, hz j (by omega) hj]
    · rw [if_neg c]; exact g4 j hj
  · rw [G, G, if_neg (by omega), if_neg (by omega)]
    obtain ⟨q1, q2, q3, q4⟩ := g6 j hj
    exact ⟨q1, q2, q3, by omega⟩
theorem add_nr {b pu w h0 t g dy t1 g1 : Int32} {P W H D N Y : List Int32} (h : nRel (P, W, H, D, t, g, dy) (N, Y, t1, g1)) (hz : ∀ j : Nat, b.toInt ≤ (j : Int) → j < 8 → Y.getD (16 + j) 0 = 0) (hb0 : 0 ≤ b.toInt) (h8 : b.toInt < 8) (lP : P.length = 8) (lW : W.length = 8) (lH : H.length = 8) (lD : D.length = 8) (lN : N.length = 31) (lY : Y.length = 24) : nRel (P.set b.toNatClampNeg pu, W.set b.toNatClampNeg w, H.set b.toNatClampNeg h0, D.set b.toNatClampNeg 0, t, g, dy) (N.set b.toNatClampNeg pu, (Y.set b.toNatClampNeg w).set (8 + b).toNatClampNeg h0, t1, g1) := by
  have tb := Int32.toNat_toInt b
  obtain ⟨_, i8, _⟩ := ix_16 hb0 h8
  obtain ⟨g1, g2, g3, g4, g5⟩ := h
  dsimp only at g1 g2 g3 g4 g5
  refine ⟨fun j hj => ?_, fun j hj => ?_, g3, g4, ?_⟩
  · dsimp only; rw [kset_gI (by omega), kset_gI (by omega), g1 j hj]
  · dsimp only
    obtain ⟨q1, q2, q3⟩ := g2 j hj
    rw [i8]
    have GW : (W.set b.toNatClampNeg w).getD j 0 = if j = b.toNatClampNeg then w else W.getD j 0 := kset_gI (by omega)
    have GH : (H.set b.toNatClampNeg h0).getD j 0 = if j = b.toNatClampNeg then h0 else H.getD j 0 := kset_gI (by omega)
    have GD : (D.set b.toNatClampNeg 0).getD j 0 = if j = b.toNatClampNeg then 0 else D.getD j 0 := kset_gI (by omega)
    have G : ∀ m : Nat, ((Y.set b.toNatClampNeg w).set (8 + b.toNatClampNeg) h0).getD m 0 = if m = 8 + b.toNatClampNeg then h0 else if m = b.toNatClampNeg then w else Y.getD m 0 := fun m => by rw [kset_gI (by rw [List.length_set]; omega), kset_gI (by omega)]
    rw [GW, GH, GD, G, G, G, q1, q2, q3]
    refine ⟨?_, ?_, ?_⟩
    · (repeat' split) <;> first | rfl | (exfalso; omega)
    · (repeat' split) <;> first | rfl | (exfalso; omega)
    · by_cases c : j = b.toNatClampNeg
      · rw [if_pos c, if_neg (by omega), if_neg (by omega), hz j (by omega) hj]
      · rw [if_neg c, if_neg (by omega), if_neg (by omega)]
  · dsimp only; rw [kset_gI (by omega), if_neg (by omega)]; exact g5
theorem add_ze {b b1 pu w h0 : Int32} {N Y : List Int32} (hz : ∀ j : Nat, b.toInt ≤ (j : Int) → j < 8 → N.getD (10 + j) 0 = 0 ∧ Y.getD (16 + j) 0 = 0) (hb0 : 0 ≤ b.toInt) (h8 : b.toInt < 8) (e1 : b1.toInt = b.toInt + 1) (lN : N.length = 31) (lY : Y.length = 24) : ∀ j : Nat, b1.toInt ≤ (j : Int) → j < 8 → (N.set b.toNatClampNeg pu).getD (10 + j) 0 = 0 ∧ ((Y.set b.toNatClampNeg w).set (8 + b).toNatClampNeg h0).getD (16 + j) 0 = 0 := by
  have tb := Int32.toNat_toInt b
  obtain ⟨_, i8, _⟩ := ix_16 hb0 h8
  intro j hj h8
  obtain ⟨q1, q2⟩ := hz j (by omega) h8
  rw [i8, kset_gI (by omega), if_neg (by omega), kset_gI (by rw [List.length_set]; omega), if_neg (by omega), kset_gI (by omega), if_neg (by omega)]
  exact ⟨q1, q2⟩
section SN
variable {i i1 i2 : Nat → Int32} {a a1 a2 : Nat → List Int32} {q q1 q2 : Nat → List Int64} {r r1 r2 : Nat → Nat} {u1 u2 x1 x2 x3 : Int32}
set_option maxHeartbeats 4000000 in
theorem st_img (K : kI i a q ∧ kr r) (h : kMar i a r) (g1 : kG yw106_0 i a q r i1 a1 q1 r1) (P1 : pt_ke106_0 u1 i a q r i1 a1 q1 r1) (g2 : kG yw206_116 i1 a1 q1 r1 i2 a2 q2 r2) (P2 : pt_ke206_116 u2 i1 a1 q1 r1 i2 a2 q2 r2) : kMar i2 a2 r2 ∧ u1 = u2 := by
  obtain ⟨hI, hr⟩ := K
  obtain ⟨h1, h2, h3, h4, h5, h6, h7, h8⟩ := h
  have b8 := kI_64 hI
  have t64 := Int32.toNat_toInt (i 64)
  unfold pt_ke206_116 at P2
  unfold pt_ke106_0 at P1
  rw [g1.fi 7424 rfl, g1.fa 118 rfl, g1.fa 130 rfl] at P2
  rw [clamp8 b8.1 b8.2, k0N, k5N] at P1
  obtain ⟨_, c1, c2, c3, c4, c5, c6, c7, c8, c9, c10, cv⟩ := P1
  obtain ⟨_, d1, d2, d3, d4, dv⟩ := P2
  refine ⟨⟨kCn_fr g2 (by decide +kernel) (kCn_fr g1 (by decide +kernel) h1), kMk_fr g2 (by decide +kernel) (kMk_fr g1 (by decide +kernel) h2), kNr_fr g2 (by decide +kernel) (kNr_fr g1 (by decide +kernel) h3), kGr_fr g2 (by decide +kernel) (kGr_fr g1 (by decide +kernel) h4), kLd_fr g2 (by decide +kernel) (kLd_fr g1 (by decide +kernel) h5), kZe_fr g2 (by decide +kernel) (kZe_fr g1 (by decide +kernel) h6), kLaw_fr g2 (by decide +kernel) g1.R (kLaw_fr g1 (by decide +kernel) hr h7), ?_, fun _ => ⟨?_, ?_, ?_, ?_⟩⟩, ?_⟩
  · rw [g2.fi 2 rfl, c10, d1]
  · rw [g2.fi 1600 rfl, c9, d2, h1]
  · rw [g2.fi 1600 rfl, c9, g2.fi 64 rfl, g1.fi 64 rfl]; exact Int.le_refl _
  · rw [g2.fi 1600 rfl, g2.fi 1608 rfl, g2.fi 1609 rfl, g2.fi 1986 rfl, g2.fa 26 rfl, g2.fa 30 rfl, g2.fa 32 rfl, g2.fa 33 rfl, c1, c2, c4, c5, c6, c7, c8, c9, d3, cpy_all (kl_8 hI) (kl_32 hI), cpy_all (kl_9 hI) (kl_33 hI)]
    obtain ⟨z1, z2, z3, z4, z5, z6⟩ := h2
    refine ⟨fun j hj => ?_, z2, z3, z5, z6⟩
    rw [cpy_pre (by rw [kl_2 hI]; omega) (by rw [kl_26 hI]; omega), cpy_pre (by rw [kl_6 hI]; omega) (by rw [kl_30 hI]; omega), if_pos (by omega), if_pos (by omega)]
    exact ⟨z1 j (by omega), z4 j (by omega)⟩
  · rw [g2.fa 38 rfl, c3, d4, cpy_all (kl_14 hI) (kl_38 hI), h5]
  · rw [cv, dv, h5, k0N]
end SN
