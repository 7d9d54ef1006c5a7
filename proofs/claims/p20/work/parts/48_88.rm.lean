/-! THE MARKET OF CLASS AND REFERENCE, ALIKE BETWEEN TWO CALLS -/
def kUn (w : kW) (F A R : List Nat) : Bool := F.all (fun k => !kM w.1 k) && (A.all (fun k => !kM w.2.1 k) && R.all (fun k => !kM w.2.2.2 k))
theorem kUn_all {w : kW} {F A R : List Nat} (h : kUn w F A R = true) : (∀ k ∈ F, kM w.1 k = false) ∧ (∀ k ∈ A, kM w.2.1 k = false) ∧ (∀ k ∈ R, kM w.2.2.2 k = false) := by
  unfold kUn at h
  simp only [Bool.and_eq_true, List.all_eq_true, Bool.not_eq_true'] at h
  exact h
def wl (i : Nat → Int32) (a : Nat → List Int32) : List Int32 → Int32 := fun nm => wLaw (a 120) (a 121) (a 122) (a 123) nm (i 7432).toInt.toNat 0
def kLaw (i : Nat → Int32) (a : Nat → List Int32) (r : Nat → Nat) : Prop := i (64 * r 0) = i 7431 ∧ ((i 7431).toInt ≠ 0 → kLv (wl i a) (a (r 0 + 1)) (a (r 0 + 2)) (i (64 * r 0 + 3)))
def mImg (b : Int32) (P O : List Int32) (dy cm op : Int32) (Wh Mu S : List Int32) : Prop :=
  (∀ j : Nat, (j : Int) < b.toInt → P.getD j 0 = S.getD j 0 ∧ O.getD j 0 = S.getD (10 + j) 0) ∧ dy = S.getD 8 0 ∧ cm = S.getD 9 0 ∧ op = S.getD 18 0 ∧ ∀ j : Nat, (j : Int) < op.toInt → Wh.getD j 0 = S.getD (19 + j) 0 ∧ Mu.getD j 0 = S.getD (25 + j) 0 ∧ 0 ≤ (Wh.getD j 0).toInt ∧ (Wh.getD j 0).toInt < b.toInt
def kMk (i : Nat → Int32) (a : Nat → List Int32) : Prop := mNow (i 64) (a 2) (a 6) (i 72) (i 73) (i 450) (a 8) (a 9) (a 118)
def kNr (i : Nat → Int32) (a : Nat → List Int32) : Prop := nRel (a 2, a 3, a 4, a 5, i 70, i 71, i 72) (a 118, a 117, i 7426, i 7427)
def kGr (i : Nat → Int32) (a : Nat → List Int32) : Prop := gRel (i 64) (a 90, a 91, a 92, a 93, i 5700, i 5701) (a 133, i 7452, i 7453)
def kZe (i : Nat → Int32) (a : Nat → List Int32) : Prop := ∀ j : Nat, (i 64).toInt ≤ (j : Int) → j < 8 → (a 118).getD (10 + j) 0 = 0 ∧ (a 117).getD (16 + j) 0 = 0
def kIm (i : Nat → Int32) (a : Nat → List Int32) : Prop := i 2 = i 7448 ∧ ((i 2).toInt ≠ 0 → i 1600 = i 7449 ∧ (i 1600).toInt ≤ (i 64).toInt ∧ mImg (i 1600) (a 26) (a 30) (i 1608) (i 1609) (i 1986) (a 32) (a 33) (a 131) ∧ a 38 = a 132)
def kMar (i : Nat → Int32) (a : Nat → List Int32) (r : Nat → Nat) : Prop := i 64 = i 7424 ∧ kMk i a ∧ kNr i a ∧ kGr i a ∧ a 14 = a 130 ∧ kZe i a ∧ kLaw i a r ∧ kIm i a
section RM
variable {w : kW} {i i1 : Nat → Int32} {a a1 : Nat → List Int32} {q q1 : Nat → List Int64} {r r1 : Nat → Nat}
theorem kl_2 (hI : kI i a q) : (a 2).length = 8 := hI.2.1 2
theorem kl_3 (hI : kI i a q) : (a 3).length = 8 := hI.2.1 3
theorem kl_4 (hI : kI i a q) : (a 4).length = 8 := hI.2.1 4
theorem kl_5 (hI : kI i a q) : (a 5).length = 8 := hI.2.1 5
theorem kl_6 (hI : kI i a q) : (a 6).length = 8 := hI.2.1 6
theorem kl_8 (hI : kI i a q) : (a 8).length = 5 := hI.2.1 8
theorem kl_9 (hI : kI i a q) : (a 9).length = 5 := hI.2.1 9
theorem kl_14 (hI : kI i a q) : (a 14).length = 5 := hI.2.1 14
theorem kl_16 (hI : kI i a q) : (a 16).length = 8 := hI.2.1 16
theorem kl_17 (hI : kI i a q) : (a 17).length = 8 := hI.2.1 17
theorem kl_18 (hI : kI i a q) : (a 18).length = 8 := hI.2.1 18
theorem kl_19 (hI : kI i a q) : (a 19).length = 8 := hI.2.1 19
theorem kl_20 (hI : kI i a q) : (a 20).length = 8 := hI.2.1 20
theorem kl_21 (hI : kI i a q) : (a 21).length = 8 := hI.2.1 21
theorem kl_22 (hI : kI i a q) : (a 22).length = 8 := hI.2.1 22
theorem kl_23 (hI : kI i a q) : (a 23).length = 8 := hI.2.1 23
theorem kl_26 (hI : kI i a q) : (a 26).length = 8 := hI.2.1 26
theorem kl_30 (hI : kI i a q) : (a 30).length = 8 := hI.2.1 30
theorem kl_32 (hI : kI i a q) : (a 32).length = 5 := hI.2.1 32
theorem kl_33 (hI : kI i a q) : (a 33).length = 5 := hI.2.1 33
theorem kl_38 (hI : kI i a q) : (a 38).length = 5 := hI.2.1 38
theorem kl_90 (hI : kI i a q) : (a 90).length = 40 := hI.2.1 90
theorem kl_91 (hI : kI i a q) : (a 91).length = 40 := hI.2.1 91
theorem kl_92 (hI : kI i a q) : (a 92).length = 40 := hI.2.1 92
theorem kl_93 (hI : kI i a q) : (a 93).length = 40 := hI.2.1 93
theorem kl_117 (hI : kI i a q) : (a 117).length = 24 := hI.2.1 117
theorem kl_118 (hI : kI i a q) : (a 118).length = 31 := hI.2.1 118
theorem kl_130 (hI : kI i a q) : (a 130).length = 5 := hI.2.1 130
theorem kl_133 (hI : kI i a q) : (a 133).length = 160 := hI.2.1 133
theorem kl_141 (hI : kI i a q) : (a 141).length = 64 := hI.2.1 141
theorem kCn_fr (g : kG w i a q r i1 a1 q1 r1) (f : kUn w [64, 7424] [] [] = true) (h : i 64 = i 7424) : i1 64 = i1 7424 := by
  obtain ⟨f1, f2, _⟩ := kUn_all f
  rw [g.fi 64 (f1 64 (by decide)), g.fi 7424 (f1 7424 (by decide))]
  exact h
theorem kMk_fr (g : kG w i a q r i1 a1 q1 r1) (f : kUn w [64, 72, 73, 450] [2, 6, 8, 9, 118] [] = true) (h : kMk i a) : kMk i1 a1 := by
  obtain ⟨f1, f2, _⟩ := kUn_all f
  unfold kMk
  rw [g.fi 64 (f1 64 (by decide)), g.fi 72 (f1 72 (by decide)), g.fi 73 (f1 73 (by decide)), g.fi 450 (f1 450 (by decide)), g.fa 2 (f2 2 (by decide)), g.fa 6 (f2 6 (by decide)), g.fa 8 (f2 8 (by decide)), g.fa 9 (f2 9 (by decide)), g.fa 118 (f2 118 (by decide))]
  exact h
theorem kNr_fr (g : kG w i a q r i1 a1 q1 r1) (f : kUn w [70, 71, 72, 7426, 7427] [2, 3, 4, 5, 118, 117] [] = true) (h : kNr i a) : kNr i1 a1 := by
  obtain ⟨f1, f2, _⟩ := kUn_all f
  unfold kNr
  rw [g.fi 70 (f1 70 (by decide)), g.fi 71 (f1 71 (by decide)), g.fi 72 (f1 72 (by decide)), g.fi 7426 (f1 7426 (by decide)), g.fi 7427 (f1 7427 (by decide)), g.fa 2 (f2 2 (by decide)), g.fa 3 (f2 3 (by decide)), g.fa 4 (f2 4 (by decide)), g.fa 5 (f2 5 (by decide)), g.fa 118 (f2 118 (by decide)), g.fa 117 (f2 117 (by decide))]
  exact h
theorem kGr_fr (g : kG w i a q r i1 a1 q1 r1) (f : kUn w [64, 5700, 5701, 7452, 7453] [90, 91, 92, 93, 133] [] = true) (h : kGr i a) : kGr i1 a1 := by
  obtain ⟨f1, f2, _⟩ := kUn_all f
  unfold kGr
  rw [g.fi 64 (f1 64 (by decide)), g.fi 5700 (f1 5700 (by decide)), g.fi 5701 (f1 5701 (by decide)), g.fi 7452 (f1 7452 (by decide)), g.fi 7453 (f1 7453 (by decide)), g.fa 90 (f2 90 (by decide)), g.fa 91 (f2 91 (by decide)), g.fa 92 (f2 92 (by decide)), g.fa 93 (f2 93 (by decide)), g.fa 133 (f2 133 (by decide))]
  exact h
theorem kLd_fr (g : kG w i a q r i1 a1 q1 r1) (f : kUn w [] [14, 130] [] = true) (h : a 14 = a 130) : a1 14 = a1 130 := by
  obtain ⟨f1, f2, _⟩ := kUn_all f
  rw [g.fa 14 (f2 14 (by decide)), g.fa 130 (f2 130 (by decide))]
  exact h
theorem kZe_fr (g : kG w i a q r i1 a1 q1 r1) (f : kUn w [64] [118, 117] [] = true) (h : kZe i a) : kZe i1 a1 := by
  obtain ⟨f1, f2, _⟩ := kUn_all f
  unfold kZe
  rw [g.fi 64 (f1 64 (by decide)), g.fa 118 (f2 118 (by decide)), g.fa 117 (f2 117 (by decide))]
  exact h
theorem kIm_fr (g : kG w i a q r i1 a1 q1 r1) (f : kUn w [2, 7448, 64, 1600, 1608, 1609, 1986, 7449] [26, 30, 32, 33, 38, 131, 132] [] = true) (h : kIm i a) : kIm i1 a1 := by
  obtain ⟨f1, f2, _⟩ := kUn_all f
  unfold kIm
  rw [g.fi 2 (f1 2 (by decide)), g.fi 7448 (f1 7448 (by decide)), g.fi 64 (f1 64 (by decide)), g.fi 1600 (f1 1600 (by decide)), g.fi 1608 (f1 1608 (by decide)), g.fi 1609 (f1 1609 (by decide)), g.fi 1986 (f1 1986 (by decide)), g.fi 7449 (f1 7449 (by decide)), g.fa 26 (f2 26 (by decide)), g.fa 30 (f2 30 (by decide)), g.fa 32 (f2 32 (by decide)), g.fa 33 (f2 33 (by decide)), g.fa 38 (f2 38 (by decide)), g.fa 131 (f2 131 (by decide)), g.fa 132 (f2 132 (by decide))]
  exact h
theorem kLaw_of (hr : kr r) (h : kLaw i a r) (er : r1 0 = r 0) (e0 : i1 7431 = i 7431) (e1 : i1 7432 = i 7432) (h1 : a1 120 = a 120) (h2 : a1 121 = a 121) (h3 : a1 122 = a 122) (h4 : a1 123 = a 123) (c0 : i1 640 = i 640) (c1 : i1 643 = i 643) (c2 : i1 6400 = i 6400) (c3 : i1 6403 = i 6403) (c4 : a1 11 = a 11) (c5 : a1 12 = a 12) (c6 : a1 101 = a 101) (c7 : a1 102 = a 102) : kLaw i1 a1 r1 := by
  unfold kLaw wl at h ⊢
  rw [er, e0, e1, h1, h2, h3, h4]
  rcases hr.1 with ⟨hz, _⟩ | ⟨hz, _⟩
  · rw [hz] at h ⊢
    rw [show i1 (64 * 10) = i (64 * 10) from c0, show i1 (64 * 10 + 3) = i (64 * 10 + 3) from c1, show a1 (10 + 1) = a (10 + 1) from c4, show a1 (10 + 2) = a (10 + 2) from c5]
    exact h
  · rw [hz] at h ⊢
    rw [show i1 (64 * 100) = i (64 * 100) from c2, show i1 (64 * 100 + 3) = i (64 * 100 + 3) from c3, show a1 (100 + 1) = a (100 + 1) from c6, show a1 (100 + 2) = a (100 + 2) from c7]
    exact h
theorem kLaw_fr (g : kG w i a q r i1 a1 q1 r1) (f : kUn w [7431, 7432, 640, 643, 6400, 6403] [120, 121, 122, 123, 11, 12, 101, 102] [0] = true) (hr : kr r) (h : kLaw i a r) : kLaw i1 a1 r1 := by
  obtain ⟨f1, f2, f3⟩ := kUn_all f
  exact kLaw_of hr h (g.fr 0 (f3 0 (by decide))) (g.fi _ (f1 _ (by decide))) (g.fi _ (f1 _ (by decide))) (g.fa _ (f2 _ (by decide))) (g.fa _ (f2 _ (by decide))) (g.fa _ (f2 _ (by decide))) (g.fa _ (f2 _ (by decide))) (g.fi _ (f1 _ (by decide))) (g.fi _ (f1 _ (by decide))) (g.fi _ (f1 _ (by decide))) (g.fi _ (f1 _ (by decide))) (g.fa _ (f2 _ (by decide))) (g.fa _ (f2 _ (by decide))) (g.fa _ (f2 _ (by decide))) (g.fa _ (f2 _ (by decide)))
/-- a method that leaves the market as it is -/
theorem kMar_fr (g : kG w i a q r i1 a1 q1 r1) (f : (kUn w [64, 70, 71, 72, 73, 450, 5700, 5701, 7424, 7427, 7452, 7453, 2, 7448, 1600, 1608, 1609, 1986, 7449, 7431, 7432, 640, 643, 6400, 6403] [2, 3, 4, 5, 6, 8, 9, 14, 26, 30, 32, 33, 38, 90, 91, 92, 93, 11, 12, 101, 102, 120, 121, 122, 123, 130, 131, 132, 133] [0]) = true) (e118 : a1 118 = a 118) (e117 : a1 117 = a 117) (e26 : i1 7426 = i 7426) (hr : kr r) (h : kMar i a r) : kMar i1 a1 r1 := by
  obtain ⟨f1, f2, f3⟩ := kUn_all f
  have F : ∀ k, k ∈ [64, 70, 71, 72, 73, 450, 5700, 5701, 7424, 7427, 7452, 7453, 2, 7448, 1600, 1608, 1609, 1986, 7449, 7431, 7432, 640, 643, 6400, 6403] → i1 k = i k := fun k hk => g.fi k (f1 k hk)
  have A : ∀ k, k ∈ [2, 3, 4, 5, 6, 8, 9, 14, 26, 30, 32, 33, 38, 90, 91, 92, 93, 11, 12, 101, 102, 120, 121, 122, 123, 130, 131, 132, 133] → a1 k = a k := fun k hk => g.fa k (f2 k hk)
  obtain ⟨h1, h2, h3, h4, h5, h6, h7, h8⟩ := h
  refine ⟨?_, ?_, ?_, ?_, ?_, ?_, kLaw_of hr h7 (g.fr 0 (f3 0 (by decide))) (F _ (by decide)) (F _ (by decide)) (A _ (by decide)) (A _ (by decide)) (A _ (by decide)) (A _ (by decide)) (F _ (by decide)) (F _ (by decide)) (F _ (by decide)) (F _ (by decide)) (A _ (by decide)) (A _ (by decide)) (A _ (by decide)) (A _ (by decide)), ?_⟩
  · rw [F 64 (by decide), F 7424 (by decide)]; exact h1
  · unfold kMk; rw [F 64 (by decide), F 72 (by decide), F 73 (by decide), F 450 (by decide), A 2 (by decide), A 6 (by decide), A 8 (by decide), A 9 (by decide), e118]; exact h2
  · unfold kNr; rw [F 70 (by decide), F 71 (by decide), F 72 (by decide), F 7427 (by decide), e26, A 2 (by decide), A 3 (by decide), A 4 (by decide), A 5 (by decide), e118, e117]; exact h3
  · unfold kGr; rw [F 64 (by decide), F 5700 (by decide), F 5701 (by decide), F 7452 (by decide), F 7453 (by decide), A 90 (by decide), A 91 (by decide), A 92 (by decide), A 93 (by decide), A 133 (by decide)]; exact h4
  · rw [A 14 (by decide), A 130 (by decide)]; exact h5
  · unfold kZe; rw [F 64 (by decide), e118, e117]; exact h6
  · unfold kIm; rw [F 2 (by decide), F 7448 (by decide), F 64 (by decide), F 1600 (by decide), F 1608 (by decide), F 1609 (by decide), F 1986 (by decide), F 7449 (by decide), A 26 (by decide), A 30 (by decide), A 32 (by decide), A 33 (by decide), A 38 (by decide), A 131 (by decide), A 132 (by decide)]; exact h8
theorem kI_64 (hI : kI i a q) : 0 ≤ (i 64).toInt ∧ (i 64).toInt ≤ 8 := hI.1 64
theorem kI_450 (hI : kI i a q) : 0 ≤ (i 450).toInt ∧ (i 450).toInt ≤ 5 := hI.1 450
theorem kI_3rd (hI : kI i a q) : 1 ≤ (i 7426).toInt ∧ (i 7426).toInt ≤ 5 := hI.1 7426
theorem ix_16 {x : Int32} (h0 : 0 ≤ x.toInt) (h8 : x.toInt < 8) : (16 + x).toNatClampNeg = 16 + x.toNatClampNeg ∧ (8 + x).toNatClampNeg = 8 + x.toNatClampNeg ∧ (10 + x).toNatClampNeg = 10 + x.toNatClampNeg := by
  have k16 : (16 : Int32).toInt = 16 := by decide
  have k8 : (8 : Int32).toInt = 8 := by decide
  have k10 : (10 : Int32).toInt = 10 := by decide
  have e1 : (16 + x).toInt = (16 : Int32).toInt + x.toInt := kd_add (by omega) (by omega)
  have e2 : (8 + x).toInt = (8 : Int32).toInt + x.toInt := kd_add (by omega) (by omega)
  have e3 : (10 + x).toInt = (10 : Int32).toInt + x.toInt := kd_add (by omega) (by omega)
  have t0 := Int32.toNat_toInt x
  have t1 := Int32.toNat_toInt (16 + x)
  have t2 := Int32.toNat_toInt (8 + x)
  have t3 := Int32.toNat_toInt (10 + x)
  omega
/-- he is a dog that doesn't count: alike -/
theorem dog_eq (hN : kNr i a) {x : Int32} (h0 : 0 ≤ x.toInt) (h8 : x.toInt < 8) : (a 5).getD x.toNatClampNeg 0 = (a 117).getD (16 + x).toNatClampNeg 0 ∧ i 71 = i 7427 := by
  have t0 := Int32.toNat_toInt x
  exact ⟨by rw [(ix_16 h0 h8).1]; exact (hN.2.1 x.toNatClampNeg (by omega)).2.2, hN.2.2.2.1⟩
/-- payments of the class's own market and of the reference -/
theorem mP_start (hI : kI i a q) (h : kMk i a) {la : Int32} : mP (i 64) ((a 14).getD 2 0 - la) (a 14) (a 6) (i 72) (i 73) (cT0 1 i a) (a 118, 8, 0, la, a 141) := by
  refine ⟨h, rfl, rfl, ?_, fun j _ => rfl, ⟨kl_8 hI, kl_9 hI, kl_2 hI, kl_14 hI, fun u hu => ?_⟩, kl_118 hI, kl_141 hI⟩
  · show (a 14).getD 2 0 = (a 14).getD 2 0 - la + la
    rw [Int32.sub_add_cancel]
  · show (cRow 1 a u).length = 8
    rw [cRow_lt hu]
    match u, hu with
    | 0, _ => exact kl_16 hI
    | 1, _ => exact kl_17 hI
    | 2, _ => exact kl_18 hI
    | 3, _ => exact kl_19 hI
    | 4, _ => exact kl_20 hI
    | 5, _ => exact kl_21 hI
    | 6, _ => exact kl_22 hI
    | 7, _ => exact kl_23 hI
/-- for how much he buys: alike -/
theorem buy_eq {p x : Int32} (hI : kI i a q) (hr : kr r) (hN : kNr i a) (hM : kMk i a) (hL : kLaw i a r) (h0 : 0 ≤ x.toInt) (h8 : x.toInt < 8) {N1 : List Int32} (e9 : N1.getD 9 0 = i 73) (e10 : N1.getD (10 + x.toNatClampNeg) 0 = (a 6).getD x.toNatClampNeg 0) (e8 : N1.getD 8 0 = i 72) (_ : p = p) :
    cBuyV (i (64 * r 0)) (a (r 0 + 1)) (a (r 0 + 2)) (a (r 0 + 3)) (i (64 * r 0 + 3)) ((a 3).getD x.toNatClampNeg 0) ((a 2).getD x.toNatClampNeg 0) ((a 4).getD x.toNatClampNeg 0) (i 73) ((a 6).getD x.toNatClampNeg 0) (i 72) = gBuy (i 7431) (a 120) (a 121) (a 122) (a 123) (i 7432) (a 117) (a 118) N1 x := by
  have t0 := Int32.toNat_toInt x
  obtain ⟨q1, q2, q3⟩ := ix_16 h0 h8
  obtain ⟨w1, w2, _⟩ := hN.2.1 x.toNatClampNeg (by omega)
  have w1 : (a 3).getD x.toNatClampNeg 0 = (a 117).getD x.toNatClampNeg 0 := w1
  have w2 : (a 4).getD x.toNatClampNeg 0 = (a 117).getD (8 + x.toNatClampNeg) 0 := w2
  have w3 : (a 2).getD x.toNatClampNeg 0 = (a 118).getD x.toNatClampNeg 0 := hM.1 _ (by omega)
  have hs : (a (r 0 + 3)).length = 121 := by
    rcases hr.1 with ⟨hz, _⟩ | ⟨hz, _⟩
    · rw [hz]; exact hI.2.1 13
    · rw [hz]; exact hI.2.1 103
  rw [kBuy_c (LV := wl i a) (fun z => hL.2 (by rw [← hL.1]; exact z)) hs]
  unfold gBuy
  rw [kBuy_r, hL.1, (by decide : (9 : Int32).toNatClampNeg = 9), (by decide : (8 : Int32).toNatClampNeg = 8), q2, q3, e8, e9, e10, w1, w2, w3]
  rfl
end RM

