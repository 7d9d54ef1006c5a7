section SN
variable {i i1 i2 : Nat → Int32} {a a1 a2 : Nat → List Int32} {q q1 q2 : Nat → List Int64} {r r1 r2 : Nat → Nat} {u1 u2 x1 x2 x3 : Int32}
set_option maxHeartbeats 4000000 in
theorem st_back (K : kI i a q ∧ kr r) (h : kMar i a r) (g1 : kG yw107_0 i a q r i1 a1 q1 r1) (P1 : pt_ke107_0 u1 i a q r i1 a1 q1 r1) (g2 : kG yw207_116 i1 a1 q1 r1 i2 a2 q2 r2) (P2 : pt_ke207_116 u2 i1 a1 q1 r1 i2 a2 q2 r2) : kMar i2 a2 r2 ∧ u1 = u2 := by
  obtain ⟨hI, hr⟩ := K
  obtain ⟨h1, h2, h3, h4, h5, h6, h7, h8⟩ := h
  have b8 := kI_64 hI
  have b8i : 0 ≤ (i 1600).toInt ∧ (i 1600).toInt ≤ 8 := hI.1 1600
  have t16 := Int32.toNat_toInt (i 1600)
  have e64 : i2 64 = i 64 := (g2.fi 64 rfl).trans (g1.fi 64 rfl)
  have e117 : a2 117 = a 117 := (g2.fa 117 rfl).trans (g1.fa 117 rfl)
  have P2 : pt_ke207_116 u2 i a q r i2 a2 q2 r2 := by
    unfold pt_ke207_116 at P2 ⊢
    simp only [g1.fi 7448 rfl, g1.fi 7449 rfl, g1.fa 118 rfl, g1.fa 130 rfl, g1.fa 131 rfl, g1.fa 132 rfl] at P2
    exact P2
  have fin : kMk i2 a2 → a2 14 = a2 130 → kZe i2 a2 → kMar i2 a2 r2 := fun mk ld ze => ⟨kCn_fr g2 (by decide +kernel) (kCn_fr g1 (by decide +kernel) h1), mk, nr_mk mk h3 ((g2.fa 3 rfl).trans (g1.fa 3 rfl)) ((g2.fa 4 rfl).trans (g1.fa 4 rfl)) ((g2.fa 5 rfl).trans (g1.fa 5 rfl)) e117 ((g2.fi 70 rfl).trans (g1.fi 70 rfl)) ((g2.fi 71 rfl).trans (g1.fi 71 rfl)) ((g2.fi 7426 rfl).trans (g1.fi 7426 rfl)) ((g2.fi 7427 rfl).trans (g1.fi 7427 rfl)), kGr_fr g2 (by decide +kernel) (kGr_fr g1 (by decide +kernel) h4), ld, ze, kLaw_fr g2 (by decide +kernel) g1.R (kLaw_fr g1 (by decide +kernel) hr h7), kIm_fr g2 (by decide +kernel) (kIm_fr g1 (by decide +kernel) h8)⟩
  by_cases ci : (i 2).toInt = 0
  · have ci2 : (i 7448).toInt = 0 := by rw [← h8.1]; exact ci
    obtain ⟨_, _, _, _, _, _, _, _, _, _, n1, n2, n3, n4, n5, n6, n7, n8, nv⟩ := P1
    obtain ⟨_, _, _, _, m1, m2, mv⟩ := P2
    have mk : kMk i2 a2 := by
      unfold kMk
      rw [e64, g2.fi 72 rfl, g2.fi 73 rfl, g2.fi 450 rfl, g2.fa 2 rfl, g2.fa 6 rfl, g2.fa 8 rfl, g2.fa 9 rfl, n1 ci, n2 ci, n4 ci, n5 ci, n6 ci, n7 ci, n8 ci, m1 ci2]
      exact h2
    refine ⟨fin mk ?_ (ze_mk mk h2 h6 e64 e117 (fun j _ _ => by rw [g2.fa 6 rfl, n2 ci])), ?_⟩
    · rw [g2.fa 14 rfl, n3 ci, m2 ci2, h5]
    · rw [nv ci, mv ci2]
  · have ci2 : (i 7448).toInt ≠ 0 := by rw [← h8.1]; exact ci
    obtain ⟨s1, s2, ⟨s3, s4, s5, s6, s7⟩, s8⟩ := h8.2 ci
    have c1 := P1.2.1 ci
    have c2 := P1.2.2.1 ci
    have c3 := P1.2.2.2.1 ci
    have c4 := P1.2.2.2.2.1 ci
    have c5 := P1.2.2.2.2.2.1 ci
    have c6 := P1.2.2.2.2.2.2.1 ci
    have c7 := P1.2.2.2.2.2.2.2.1 ci
    have c8 := P1.2.2.2.2.2.2.2.2.1 ci
    have cv := P1.2.2.2.2.2.2.2.2.2.1 ci
    have d1 := P2.2.1 ci2
    have d2 := P2.2.2.1 ci2
    have dv := P2.2.2.2.1 ci2
    rw [clamp8 b8i.1 b8i.2, k0N] at c1 c2
    rw [k0N, k5N] at c3 c6 c7 cv
    rw [cpy_all (kl_32 hI) (kl_8 hI)] at c6
    rw [cpy_all (kl_33 hI) (kl_9 hI)] at c7
    rw [cpy_all (kl_38 hI) (kl_14 hI)] at c3 cv
    rw [← s1] at d1
    have hS : ∀ j : Nat, j < 31 → ¬ rSince (i 1600) j → (rBk (i 1600) (a 118) (a 131)).getD j 0 = (a 131).getD j 0 := fun j hj hn => (rBk_g hj).2 hn
    have hY : ∀ j : Nat, j < 31 → rSince (i 1600) j → (rBk (i 1600) (a 118) (a 131)).getD j 0 = (a 118).getD j 0 := fun j hj hn => (rBk_g hj).1 hn
    have mk : kMk i2 a2 := by
      unfold kMk
      rw [e64, g2.fi 72 rfl, g2.fi 73 rfl, g2.fi 450 rfl, g2.fa 2 rfl, g2.fa 6 rfl, g2.fa 8 rfl, g2.fa 9 rfl, c1, c2, c4, c5, c6, c7, c8, d1]
      refine ⟨fun j hj => ?_, ?_, ?_, fun j hj => ?_, ?_, fun j hj => ?_⟩
      · rw [cpy_pre (by rw [kl_26 hI]; omega) (by rw [kl_2 hI]; omega)]
        by_cases c : j < (i 1600).toNatClampNeg
        · rw [if_pos c, hS j (by omega) (fun z => by unfold rSince at z; omega)]
          exact (s3 j (by omega)).1
        · rw [if_neg c, hY j (by omega) (Or.inl (by omega))]
          exact h2.1 j hj
      · rw [hS 8 (by omega) (fun z => by unfold rSince at z; omega)]; exact s4
      · rw [hS 9 (by omega) (fun z => by unfold rSince at z; omega)]; exact s5
      · rw [cpy_pre (by rw [kl_30 hI]; omega) (by rw [kl_6 hI]; omega)]
        by_cases c : j < (i 1600).toNatClampNeg
        · rw [if_pos c, hS (10 + j) (by omega) (fun z => by unfold rSince at z; omega)]
          exact (s3 j (by omega)).2
        · rw [if_neg c, hY (10 + j) (by omega) (Or.inr (by omega))]
          exact h2.2.2.2.1 j hj
      · rw [hS 18 (by omega) (fun z => by unfold rSince at z; omega)]; exact s6
      · have o5 : (i 1986).toInt ≤ 5 := (hI.1 1986).2
        rw [hS (19 + j) (by omega) (fun z => by unfold rSince at z; omega), hS (25 + j) (by omega) (fun z => by unfold rSince at z; omega)]
        obtain ⟨y1, y2, y3, y4⟩ := s7 j hj
        exact ⟨y1, y2, y3, by omega⟩
    refine ⟨fin mk ?_ ?_, ?_⟩
    · rw [g2.fa 14 rfl, c3, d2, s8]
    · intro j hj h8
      rw [e64] at hj
      obtain ⟨z1, z2⟩ := h6 j hj h8
      refine ⟨?_, by rw [e117]; exact z2⟩
      rw [d1, hY (10 + j) (by omega) (Or.inr (by omega))]
      exact z1
    · rw [cv, dv, s8, k0N]
end SN
