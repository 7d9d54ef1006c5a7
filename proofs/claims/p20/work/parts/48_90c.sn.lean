section SN
variable {i i1 i2 : Nat → Int32} {a a1 a2 : Nat → List Int32} {q q1 q2 : Nat → List Int64} {r r1 r2 : Nat → Nat} {u1 u2 x1 x2 x3 : Int32}
theorem mn_fin {w1 w2 : kW} {X : Int32 × kNt × kCg} {Y : Int32 × kRt × kRg} (hr : kr r) (h : kMar i a r) (g1 : kG w1 i a q r i1 a1 q1 r1) (g2 : kG w2 i1 a1 q1 r1 i2 a2 q2 r2) (hX : mnRel (i 64) X Y) (hk : mnKeep (i 64) (a 118, a 117, i 7426, i 7427) Y)
    (f1 : kUn w1 [64, 7424, 73, 450, 7431, 7432, 640, 643, 6400, 6403, 2, 7448, 1600, 1608, 1609, 1986, 7449] [6, 8, 9, 14, 130, 120, 121, 122, 123, 11, 12, 101, 102, 26, 30, 32, 33, 38, 131, 132] [0] = true) (f2 : kUn w2 [64, 7424, 73, 450, 7431, 7432, 640, 643, 6400, 6403, 2, 7448, 1600, 1608, 1609, 1986, 7449] [6, 8, 9, 14, 130, 120, 121, 122, 123, 11, 12, 101, 102, 26, 30, 32, 33, 38, 131, 132] [0] = true)
    (c : (a2 2, a2 3, a2 4, a2 5, i2 70, i2 71, i2 72) = X.2.1) (d : (a2 118, a2 117, i2 7426, i2 7427) = Y.2.1) (e : (a2 90, a2 91, a2 92, a2 93, i2 5700, i2 5701) = X.2.2) (f : (a2 133, i2 7452, i2 7453) = Y.2.2) : kMar i2 a2 r2 := by
  obtain ⟨h1, h2, h3, h4, h5, h6, h7, h8⟩ := h
  obtain ⟨m1, m2, m3⟩ := hX
  obtain ⟨p1, p2, p3⟩ := kUn_all f1
  obtain ⟨s1, s2, s3⟩ := kUn_all f2
  have F : ∀ k, k ∈ [64, 7424, 73, 450, 7431, 7432, 640, 643, 6400, 6403, 2, 7448, 1600, 1608, 1609, 1986, 7449] → i2 k = i k := fun k hk => (g2.fi k (s1 k hk)).trans (g1.fi k (p1 k hk))
  have A : ∀ k, k ∈ [6, 8, 9, 14, 130, 120, 121, 122, 123, 11, 12, 101, 102, 26, 30, 32, 33, 38, 131, 132] → a2 k = a k := fun k hk => (g2.fa k (s2 k hk)).trans (g1.fa k (p2 k hk))
  have nr : kNr i2 a2 := by unfold kNr; rw [c, d]; exact m2
  obtain ⟨k1, k2⟩ := hk
  rw [← d] at k1 k2
  have mk : kMk i2 a2 := by
    unfold kMk
    rw [F 64 (by decide), F 73 (by decide), F 450 (by decide), A 6 (by decide), A 8 (by decide), A 9 (by decide)]
    exact mk_mend h2 nr.1 nr.2.2.2.2 k1
  refine ⟨?_, mk, nr, ?_, ?_, ?_, kLaw_of hr h7 ((g2.fr 0 (s3 0 (by decide))).trans (g1.fr 0 (p3 0 (by decide)))) (F _ (by decide)) (F _ (by decide)) (A _ (by decide)) (A _ (by decide)) (A _ (by decide)) (A _ (by decide)) (F _ (by decide)) (F _ (by decide)) (F _ (by decide)) (F _ (by decide)) (A _ (by decide)) (A _ (by decide)) (A _ (by decide)) (A _ (by decide)), ?_⟩
  · rw [F 64 (by decide), F 7424 (by decide)]; exact h1
  · unfold kGr; rw [F 64 (by decide), e, f]; exact m3
  · rw [A 14 (by decide), A 130 (by decide)]; exact h5
  · intro j hj h8
    rw [F 64 (by decide)] at hj
    obtain ⟨z1, z2⟩ := h6 j hj h8
    exact ⟨(k1 (10 + j) (by omega)).trans z1, (k2 j hj).trans z2⟩
  · unfold kIm; rw [F 2 (by decide), F 7448 (by decide), F 64 (by decide), F 1600 (by decide), F 1608 (by decide), F 1609 (by decide), F 1986 (by decide), F 7449 (by decide), A 26 (by decide), A 30 (by decide), A 32 (by decide), A 33 (by decide), A 38 (by decide), A 131 (by decide), A 132 (by decide)]; exact h8
theorem nl_of (hI : kI i a q) : nLen (a 2, a 3, a 4, a 5, i 70, i 71, i 72) (a 118, a 117, i 7426, i 7427) := ⟨kl_2 hI, kl_3 hI, kl_4 hI, kl_5 hI, kl_118 hI, kl_117 hI⟩
theorem gl_of (hI : kI i a q) : gLen (a 90, a 91, a 92, a 93, i 5700, i 5701) (a 133, i 7452, i 7453) := ⟨kl_90 hI, kl_91 hI, kl_92 hI, kl_93 hI, kl_133 hI⟩
theorem kT7 {A B C D E F G : Type} {a a1 : A} {b b1 : B} {c c1 : C} {d d1 : D} {e e1 : E} {f f1 : F} {g g1 : G} (h1 : a = a1) (h2 : b = b1) (h3 : c = c1) (h4 : d = d1) (h5 : e = e1) (h6 : f = f1) (h7 : g = g1) : (a, b, c, d, e, f, g) = (a1, b1, c1, d1, e1, f1, g1) := by subst h1; subst h2; subst h3; subst h4; subst h5; subst h6; subst h7; rfl
theorem kT6 {A B C D E F : Type} {a a1 : A} {b b1 : B} {c c1 : C} {d d1 : D} {e e1 : E} {f f1 : F} (h1 : a = a1) (h2 : b = b1) (h3 : c = c1) (h4 : d = d1) (h5 : e = e1) (h6 : f = f1) : (a, b, c, d, e, f) = (a1, b1, c1, d1, e1, f1) := by subst h1; subst h2; subst h3; subst h4; subst h5; subst h6; rfl
theorem kT4 {A B C D : Type} {a a1 : A} {b b1 : B} {c c1 : C} {d d1 : D} (h1 : a = a1) (h2 : b = b1) (h3 : c = c1) (h4 : d = d1) : (a, b, c, d) = (a1, b1, c1, d1) := by subst h1; subst h2; subst h3; subst h4; rfl
theorem kTT3 {A B C : Type} {a a1 : A} {b b1 : B} {c c1 : C} (h1 : a = a1) (h2 : b = b1) (h3 : c = c1) : (a, b, c) = (a1, b1, c1) := by subst h1; subst h2; subst h3; rfl
end SN
