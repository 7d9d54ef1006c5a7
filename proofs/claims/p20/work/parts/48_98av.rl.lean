theorem ktoi0 : (0 : Int32).toInt = 0 := by decide
theorem ktoi1 : (1 : Int32).toInt = 1 := by decide
theorem ktoi5 : (5 : Int32).toInt = 5 := by decide
theorem ktoi2 : (2 : Int32).toInt = 2 := by decide
theorem ktoi10 : (10 : Int32).toInt = 10 := by decide
theorem ktoi31 : (31 : Int32).toInt = 31 := by decide
theorem toi0 {a0 : Int} (h0 : (0 : Int) ≤ a0) : (-2147483648 : Int) ≤ 31 * a0 := oz673 h0
theorem toi1 {a0 a1 : Int} (h0 : a0 ≤ 5) (h1 : (a1 + 1) ≤ a0) : 31 * a1 ≤ 2147483647 := oz674 h0 h1
theorem toi5 {a0 : Int} (h0 : (0 : Int) ≤ a0) : (0 : Int) ≤ a0 := oz3 h0
theorem toi9 {a0 a1 : Int} (h0 : (0 : Int) ≤ a0) (h1 : a1 = 1) : (-2147483648 : Int) ≤ a0 + a1 := oz12 h0 h1
theorem toi14 {a0 a1 a2 : Int} (h0 : a0 = a1 + a2) (h1 : a2 = 1) : a0 = a1 + 1 := oz169 h0 h1
theorem toi19 {a0 a1 a2 : Int} (h0 : (0 : Int) ≤ a0) (h1 : a1 ≤ 5) (h2 : (a0 + 1) ≤ a1) (h3 : a2 = 31 * a0) : ((0 : Int) ≤ a2) ∧ (a2 ≤ 124) := oz679 h0 h1 h2 h3
theorem toi20 {a0 : Int} (h0 : (0 : Int) ≤ a0) (h1 : a0 ≤ 7) : ((0 : Int) ≤ a0) ∧ (a0 ≤ 7) := oz181 h0 h1
theorem toi21 {a0 a1 a2 : Int} (h0 : a0 ≤ 5) (h1 : (a1 + 1) ≤ a0) (h2 : a2 = 1) : a1 + a2 ≤ 2147483647 := oz680 h0 h1 h2
theorem toi22 {a0 a1 a2 : Int} (h0 : (a0 - a1) = a2) (h1 : (a1 + 1) ≤ a0) : (1 : Int) ≤ a2 := oz681 h0 h1
theorem toi23 {a0 a1 a2 a3 : Int} (h0 : (0 : Int) ≤ a0) (h1 : a1 ≤ 5) (h2 : (a0 + 1) ≤ a1) (h3 : a2 = a0 + a3) (h4 : a3 = 1) : ((0 : Int) ≤ a2) ∧ (a2 ≤ a1) ∧ (a1 ≤ 5) := oz682 h0 h1 h2 h3 h4
theorem toi24 {a0 a1 a2 a3 a4 a5 : Int} (h0 : a0 = a1 + 1) (h1 : (a2 - a3) = a0) (h2 : a4 = a3 + a5) (h3 : a5 = 1) : (a2 - a4) = a1 := oz683 h0 h1 h2 h3
theorem toi25 {a0 a1 a2 : Int} (h0 : a0 ≠ a1) (h1 : a0 = (a2 % 2)) (h2 : a1 = 0) : ¬ ((a2 % 2) = 0) := tol61 h0 h1 h2
theorem toi26 {a0 a1 : Int} (h0 : a0 = 31 * a1) : a0 = 31 * a1 := os267 h0
theorem toi27 {a0 a1 a2 : Int} (h0 : a0 = a1) (h1 : a0 = (a2 % 2)) (h2 : a1 = 0) : (a2 % 2) = 0 := tol63 h0 h1 h2
theorem toi28 {a0 a1 a2 : Int} (h0 : a0 ≤ a1) (h1 : a1 ≤ 5) (h2 : a2 = 1) : a0 + a2 ≤ 2147483647 := oz684 h0 h1 h2
theorem toi29 {a0 a1 a2 : Int} (h0 : a0 ≠ a1) (h1 : (0 : Int) ≤ a2) (h2 : (a1 - a0) = a2) : (1 : Int) ≤ a2 := oz685 h0 h1 h2
theorem toi30 {a0 a1 a2 a3 : Int} (h0 : a0 ≠ a1) (h1 : (0 : Int) ≤ a0) (h2 : a0 ≤ a1) (h3 : a1 ≤ 5) (h4 : a2 = a0 + a3) (h5 : a3 = 1) : ((0 : Int) ≤ a2) ∧ (a2 ≤ a1) ∧ (a1 ≤ 5) := oz686 h0 h1 h2 h3 h4 h5
theorem toi31 {a0 a1 : Int} (h0 : (0 : Int) ≤ a0) (h1 : a0 ≤ a1) (h2 : a1 ≤ 5) : ((0 : Int) ≤ a0) ∧ (a0 ≤ a1) ∧ (a1 ≤ 5) := oz687 h0 h1 h2
theorem toi32 {a0 a1 a2 : Int} (h0 : (a0 - a1) = a2) : (a0 - a1) = a2 := oz688 h0
theorem toi33 {a0 a1 : Int} (h0 : a0 ≠ a1) (h1 : a0 ≤ a1) : (a0 + 1) ≤ a1 := oz689 h0 h1
theorem toi34 {a0 a1 a2 a3 a4 a5 : Int} (h0 : a0 ≠ a1) (h1 : a2 ≤ a3) (h2 : a2 ≤ a4) (h3 : a2 = a3 ∨ a2 = a4) (h4 : a0 = (a5 % 2)) (h5 : a1 = 0) : ¬ ((a5 % 2) = 0) ∧ (a2 ≤ a3 ∧ a2 ≤ a4) ∧ (a2 = a3 ∨ a2 = a4) := tol30 h0 h1 h2 h3 h4 h5
theorem toi35 {a0 a1 : Int} (h0 : a0 ≠ a1) (h1 : a0 ≤ a1) : a0 < a1 := by omega
theorem toi36 {a0 a1 a2 a3 a4 a5 : Int} (h0 : a0 = a1) (h1 : a2 ≤ a3) (h2 : a4 ≤ a3) (h3 : a3 = a2 ∨ a3 = a4) (h4 : a0 = (a5 % 2)) (h5 : a1 = 0) : (a5 % 2) = 0 ∧ (a2 ≤ a3 ∧ a4 ≤ a3) ∧ (a3 = a2 ∨ a3 = a4) := tol39 h0 h1 h2 h3 h4 h5
theorem toi37 {a0 : Int} (h0 : a0 ≤ 7) : a0 < 31 := oz65 h0
theorem toi38 {a0 a1 : Int} (h0 : a0 = a1) (h1 : a0 ≤ a1) : a0 = a1 := or267 h0 h1
theorem toi52 {a0 a1 a2 : Int} (h0 : a0 ≤ a1) (h1 : a1 ≤ a2) (h2 : a0 = 1) (h3 : a2 = 5) : ((0 : Int) ≤ a0) ∧ (a0 ≤ a1) ∧ (a1 ≤ 5) := oz696 h0 h1 h2 h3
theorem toi53 {a0 a1 a2 : Int} (h0 : a0 ≤ 8) (h1 : a1 = (a2 / 10)) (h2 : (0 : Int) ≤ a2) (h3 : (a2 / 10) < a0) (h4 : (a2 % 10) < a0) (h5 : (a2 / 10) ≠ (a2 % 10)) : ((0 : Int) ≤ a1) ∧ (a1 ≤ 7) := oz697 h0 h1 h2 h3 h4 h5
theorem toi54 {a0 a1 a2 : Int} (h0 : a0 ≤ 8) (h1 : a1 = (a2 % 10)) (h2 : (a2 % 10) < a0) : ((0 : Int) ≤ a1) ∧ (a1 ≤ 7) := oz698 h0 h1 h2
theorem toi55 {a0 : Int} (h0 : a0 = 1) : a0 = 1 := oz1381 h0
theorem toi56 {a0 a1 : Int} (h0 : a0 ≤ a1) (h1 : a0 = 1) : (1 : Int) ≤ a1 := by omega
theorem toi57 {a0 a1 a2 a3 : Int} (h0 : a0 ≤ a1) (h1 : a1 ≤ a2) (h2 : a0 = 1) (h3 : a2 = 5) (h4 : a3 = 0) : ((0 : Int) ≤ a3) ∧ (a3 ≤ a1) ∧ (a1 ≤ 5) := oz699 h0 h1 h2 h3 h4
theorem toi58 {a0 a1 a2 : Int} (h0 : a0 ≤ a1) (h1 : a0 = 1) (h2 : a2 = 0) : (a2 + 1) ≤ a1 := oz700 h0 h1 h2
theorem toi59 {a0 : Int} (h0 : a0 = 0) : a0 = 0 := oz236 h0
theorem toi60 {a0 a1 a2 a3 a4 a5 a6 : Int} (h0 : (0 : Int) ≤ a0) (h1 : (a0 / 10) < a1) (h2 : (a0 % 10) < a1) (h3 : (a0 / 10) ≠ (a0 % 10)) (h4 : a2 ≤ a3) (h5 : a3 ≤ a4) (h6 : a5 ≤ a6) (h7 : a6 ≤ a2) (h8 : a2 = 1) (h9 : a4 = 5) (h10 : a5 = 0) : ((0 : Int) ≤ a0) ∧ ((a0 / 10) < a1) ∧ ((a0 % 10) < a1) ∧ ((a0 / 10) ≠ (a0 % 10)) ∧ ((1 : Int) ≤ a3) ∧ (a3 ≤ 5) ∧ ((0 : Int) ≤ a6) ∧ (a6 ≤ 1) := tol88 h0 h1 h2 h3 h4 h5 h6 h7 h8 h9 h10
theorem toi61 {a0 a1 : Int} (h0 : a0 ≠ a1) (h1 : a1 ≤ a0) (h2 : a1 = 0) : ¬ (a0 = 0) := toy121 h0 h1 h2
theorem toi63 {a0 a1 : Int} (h0 : a0 ≤ a1) : ¬ (a1 < a0) := toy131 h0
theorem toi64 {a0 a1 : Int} (h0 : a0 < a1) : a0 < a1 := oz270 h0
theorem toi66 {a0 a1 a2 : Int} (h0 : a0 ≤ a1) (h1 : a2 ≤ a1) (h2 : a1 = a0 ∨ a1 = a2) : (a0 ≤ a1 ∧ a2 ≤ a1) ∧ (a1 = a0 ∨ a1 = a2) := by omega
theorem toi67 {a0 a1 : Int} (h0 : a0 = a1) (h1 : a1 = 0) : ¬ (a0 = 1) := toy129 h0 h1
theorem toi68 {a0 a1 a2 a3 a4 a5 : Int} (h0 : ¬ ((a0 ≤ a1) ∧ (a1 ≤ a2))) (h1 : a0 = 0) (h2 : a2 = 1) : ¬ (((0 : Int) ≤ a3) ∧ ((a3 / 10) < a4) ∧ ((a3 % 10) < a4) ∧ ((a3 / 10) ≠ (a3 % 10)) ∧ ((1 : Int) ≤ a5) ∧ (a5 ≤ 5) ∧ ((0 : Int) ≤ a1) ∧ (a1 ≤ 1)) := tol98 h0 h1 h2
theorem toi69 {a0 a1 a2 a3 a4 a5 : Int} (h0 : ¬ ((a0 ≤ a1) ∧ (a1 ≤ a2))) (h1 : a0 = 1) (h2 : a2 = 5) : ¬ (((0 : Int) ≤ a3) ∧ ((a3 / 10) < a4) ∧ ((a3 % 10) < a4) ∧ ((a3 / 10) ≠ (a3 % 10)) ∧ ((1 : Int) ≤ a1) ∧ (a1 ≤ 5) ∧ ((0 : Int) ≤ a5) ∧ (a5 ≤ 1)) := tol99 h0 h1 h2
theorem toi70 {a0 a1 a2 a3 : Int} (h0 : ¬ (((0 : Int) ≤ a0) ∧ (((a0 / 10) < a1) ∧ ((a0 % 10) < a1)) ∧ ((a0 / 10) ≠ (a0 % 10)))) : ¬ (((0 : Int) ≤ a0) ∧ ((a0 / 10) < a1) ∧ ((a0 % 10) < a1) ∧ ((a0 / 10) ≠ (a0 % 10)) ∧ ((1 : Int) ≤ a2) ∧ (a2 ≤ 5) ∧ ((0 : Int) ≤ a3) ∧ (a3 ≤ 1)) := tol100 h0
def wVE : kW := ([7464, 7465, 7466, 7467], [118, 128, 129, 140, 141], [], [])
def kLVE_198 (n : Nat) : Prop := ∀ (i : Nat → Int32) (a : Nat → List Int32) (q : Nat → List Int64) (r : Nat → Nat), kI i a q → kr r → ∀ (x1 : Int32) (x2 : Int32) (x3 : Int32) (x4 : Int32), ((0 : Int) ≤ x1.toInt) ∧ (x1.toInt ≤ x2.toInt) ∧ (x2.toInt ≤ 5) → (x2.toInt - x1.toInt) = (n : Int) → ((0 : Int) ≤ x3.toInt) ∧ (x3.toInt ≤ 7) → ((0 : Int) ≤ x4.toInt) ∧ (x4.toInt ≤ 7) → (x1.toInt + 1) ≤ x2.toInt → kCode i a → km (6 * n + 30) 198 [.ref 116, .int x1, .int x2, .int x3, .int x4] (ks i a q r) (kVI wVE i a q r (fun v i1 a1 q1 r1 => (True) ∧ (v = gTv (gKn i a) x3 x4 x2.toInt.toNat (x2.toInt - x1.toInt - 1).toNat (gNx (gKn i a) (tWho x3 x4 x1.toInt.toNat) (a 118)) ∧ (a1 118 = a 118 ∧ kLow (31 * x1.toInt).toNat (a1 140) (a 140)))))
def kLVE_199 (n : Nat) : Prop := ∀ (i : Nat → Int32) (a : Nat → List Int32) (q : Nat → List Int64) (r : Nat → Nat), kI i a q → kr r → ∀ (x1 : Int32) (x2 : Int32) (x3 : Int32) (x4 : Int32), ((0 : Int) ≤ x1.toInt) ∧ (x1.toInt ≤ x2.toInt) ∧ (x2.toInt ≤ 5) → (x2.toInt - x1.toInt) = (n : Int) → ((0 : Int) ≤ x3.toInt) ∧ (x3.toInt ≤ 7) → ((0 : Int) ≤ x4.toInt) ∧ (x4.toInt ≤ 7) → kCode i a → km (6 * n + 31) 199 [.ref 116, .int x1, .int x2, .int x3, .int x4] (ks i a q r) (kVI wVE i a q r (fun v i1 a1 q1 r1 => (True) ∧ (v = gTv (gKn i a) x3 x4 x2.toInt.toNat (x2.toInt - x1.toInt).toNat (a 118) ∧ (a1 118 = a 118 ∧ kLow (31 * x1.toInt).toNat (a1 140) (a 140)))))
set_option maxRecDepth 100000 in
theorem kLsVE_198 (n : Nat)  (ih : ∀ m, n = m + 1 → kLVE_199 m ∧ kLVE_198 m) : kLVE_198 n := by
  intro i a q r hI hr x1 x2 x3 x4 hp0 hp1 hp2 hp3 hp4 hE_code
  have hG := kG_self wVE hI hr
  refine km_ofI (q := (mi_h198, mi_c198)) rfl (by decide) (Nat.le_of_ble_eq_true rfl) ?_
  intro P hP
  have hn0 : (0 : Int) ≤ (n : Int) := Int.natCast_nonneg n
  have s1 : (31 * x1).toInt = 31 * x1.toInt := kd_cmul 31 ktoi31 (toi0 hp0.1) (toi1 hp0.2.2 hp4)
  refine ft_go mi_k198 6 9 [(0, .ref 116), (1, .int x1), (2, .int x2), (3, .int x3), (4, .int x4)] [.int (31 * x1), .ref 140, .ref 116] i a q r (by rfl) ?_
  refine ko_callN mi_k198.1 (pc := 9) (ls := [(0, .ref 116), (1, .int x1), (2, .int x2), (3, .int x3), (4, .int x4)]) (st := [.int (31 * x1), .ref 140, .ref 116]) (h := ks i a q r) (i := (.invokevirtual 263, 3, 168, 0, 9, 0, 413)) (mi_k198.2 _ _ (by rfl)) (ft_invS mi_pq168 (by rfl)) (cy := mi_c168) mi_pq168 rfl (ke168_116_140 hG.I hG.R (31 * x1) (toi19 hp0.1 hp0.2.2 hp4 s1) (by omega)) (kj_d3 (n := n) (c := 1) (o1 := 30) (by decide)) ?_
  intro ig2 ag2 qg2 rg2 kg2 hg2
  have hGg2 := kG_call hG kg2 (by decide +kernel)
  obtain ⟨hg2, og2⟩ := hg2
  have s3 : (x1 - x1 / 2 * 2).toInt = (x1.toInt % 2) := kd_rem 2 ktoi2 (by decide) (toi5 hp0.1)
  refine ft_go mi_k198 4 16 [(0, .ref 116), (1, .int x1), (2, .int x2), (3, .int x3), (4, .int x4)] [.int (x1 - x1 / 2 * 2), .ref 116] ig2 ag2 qg2 rg2 (by rfl) ?_
  refine ft_if mi_k198 ((x1 - x1 / 2 * 2) != 0) 23 19 [(0, .ref 116), (1, .int x1), (2, .int x2), (3, .int x3), (4, .int x4)] [.ref 116] (by rfl) (fun c => ?_) (fun c => ?_)
  ·
    have c4 : (x1 - x1 / 2 * 2).toInt ≠ (0 : Int32).toInt := kd_ne c; clear c
    refine ft_go mi_k198 1 25 [(0, .ref 116), (1, .int x1), (2, .int x2), (3, .int x3), (4, .int x4)] [.int x4, .ref 116] ig2 ag2 qg2 rg2 (by rfl) ?_
    refine ko_callI mi_k198.1 (pc := 25) (ls := [(0, .ref 116), (1, .int x1), (2, .int x2), (3, .int x3), (4, .int x4)]) (st := [.int x4, .ref 116]) (h := ks ig2 ag2 qg2 rg2) (i := (.invokevirtual 260, 3, 166, 0, 9, 0, 415)) (mi_k198.2 _ _ (by rfl)) (ft_invS mi_pq166 (by rfl)) (cy := mi_c166) mi_pq166 rfl (kg166_116 hGg2.I hGg2.R x4 (toi20 hp3.1 hp3.2) (kCode_of (i1 := ig2) hE_code (hGg2.fi 7432 rfl) (hGg2.fa 120 rfl) (hGg2.fa 121 rfl) (hGg2.fa 122 rfl) (hGg2.fa 123 rfl))) (kj_d3 (n := n) (c := 9) (o1 := 30) (by decide)) ?_
    intro vg5 ig5 ag5 qg5 rg5 kg5 hg5
    have hGg5 := kG_call hGg2 kg5 (by decide +kernel)
    obtain ⟨hg5, og5⟩ := hg5
    have s6 : (x1 + 1).toInt = x1.toInt + (1 : Int32).toInt := kd_add (toi9 hp0.1 ktoi1) (toi21 hp0.2.2 hp4 ktoi1)
    refine ft_go mi_k198 8 37 [(0, .ref 116), (1, .int x1), (2, .int x2), (3, .int x3), (4, .int x4)] [.int x4, .int x3, .int x2, .int (x1 + 1), .ref 116] ig5 ag5 qg5 rg5 (by rfl) ?_
    obtain ⟨m, hm, hmI⟩ := kj_pred (toi22 hp1 hp4)
    refine ko_callI mi_k198.1 (pc := 37) (ls := [(0, .ref 116), (1, .int x1), (2, .int x2), (3, .int x3), (4, .int x4)]) (st := [.int x4, .int x3, .int x2, .int (x1 + 1), .ref 116]) (h := ks ig5 ag5 qg5 rg5) (i := (.invokevirtual 333, 3, 199, 0, 9, 0, 451)) (mi_k198.2 _ _ (by rfl)) (ft_invS mi_pq199 (by rfl)) (cy := mi_c199) mi_pq199 rfl ((ih m hm).1 _ _ _ _ hGg5.I hGg5.R (x1 + 1) x2 x3 x4 (toi23 hp0.1 hp0.2.2 hp4 s6 ktoi1) (toi24 hmI hp1 s6 ktoi1) (toi20 hp2.1 hp2.2) (toi20 hp3.1 hp3.2) (kCode_of (i1 := ig5) hE_code (hGg5.fi 7432 rfl) (hGg5.fa 120 rfl) (hGg5.fa 121 rfl) (hGg5.fa 122 rfl) (hGg5.fa 123 rfl))) (kj_d2 (n := n) (m := m) (o := 31) (o1 := 30) hm (by decide)) ?_
    intro vg7 ig7 ag7 qg7 rg7 kg7 hg7
    have hGg7 := kG_call hGg5 kg7 (by decide +kernel)
    obtain ⟨hg7, og7⟩ := hg7
    refine ft_go mi_k198 7 51 [(5, .int vg7), (0, .ref 116), (1, .int x1), (2, .int x2), (3, .int x3), (4, .int x4)] [.int (31 * x1), .ref 140, .ref 116] ig7 ag7 qg7 rg7 (by rfl) ?_
    refine ko_callN mi_k198.1 (pc := 51) (ls := [(5, .int vg7), (0, .ref 116), (1, .int x1), (2, .int x2), (3, .int x3), (4, .int x4)]) (st := [.int (31 * x1), .ref 140, .ref 116]) (h := ks ig7 ag7 qg7 rg7) (i := (.invokevirtual 273, 3, 169, 0, 9, 0, 423)) (mi_k198.2 _ _ (by rfl)) (ft_invS mi_pq169 (by rfl)) (cy := mi_c169) mi_pq169 rfl (ke169_116_140 hGg7.I hGg7.R (31 * x1) (toi19 hp0.1 hp0.2.2 hp4 s1) (by have := ktoi0; have := ktoi1; omega)) (kj_d3 (n := n) (c := 1) (o1 := 30) (by decide)) ?_
    intro ig8 ag8 qg8 rg8 kg8 hg8
    have hGg8 := kG_call hGg7 kg8 (by decide +kernel)
    obtain ⟨hg8, og8⟩ := hg8
    refine ft_go mi_k198 1 56 [(5, .int vg7), (0, .ref 116), (1, .int x1), (2, .int x2), (3, .int x3), (4, .int x4)] [.int vg7] ig8 ag8 qg8 rg8 (by rfl) ?_
    exact ft_ret mi_k198 (by rfl) (hP vg7 _ _ _ _ hGg8 ⟨trivial, ⟨gTv_ca (K := gKn i a) (N := a 118) (x := x4) (y := (x1 + 1)) og7.1 (gKn_fr hGg5 (by decide +kernel) : gKn ig5 ag5 = gKn i a) (show ag5 118 = (gIn (gKn ig2 ag2) x4 (gT ig2 ag2)).1 from (rfl).trans (congrArg Prod.fst og5)) (gKn_fr hGg2 (by decide +kernel) : gKn ig2 ag2 = gKn i a) (show (gT ig2 ag2).1 = a 118 from (kg2.fa 118 rfl)) (Or.inr ⟨(toi25 c4 s3 ktoi0), rfl⟩) (toi14 s6 ktoi1) (toi5 hp0.1), (ca_end (b := (31 * x1).toInt.toNat) (b1 := (31 * (x1 + 1).toInt).toNat) (b2 := (31 * x1.toInt).toNat) (kCopd_cast og2.1 rfl rfl (Int.le_refl _)) (kLow_cast og2.2 rfl rfl (Nat.le_refl _)) ((kg5.fa 140 rfl)) og7.2.2 (kCopb_cast og8 rfl rfl (Int.le_refl _)) (kg8.fa 140 rfl) (kj_31 (toi26 s1) (toi14 s6 ktoi1) (toi5 hp0.1)) (kj_31b (toi26 s1)) (hGg8.I.2.1 118) (hG.I.2.1 118))⟩⟩)
  ·
    have c9 : (x1 - x1 / 2 * 2).toInt = (0 : Int32).toInt := kd_neF c; clear c
    refine ft_go mi_k198 2 25 [(0, .ref 116), (1, .int x1), (2, .int x2), (3, .int x3), (4, .int x4)] [.int x3, .ref 116] ig2 ag2 qg2 rg2 (by rfl) ?_
    refine ko_callI mi_k198.1 (pc := 25) (ls := [(0, .ref 116), (1, .int x1), (2, .int x2), (3, .int x3), (4, .int x4)]) (st := [.int x3, .ref 116]) (h := ks ig2 ag2 qg2 rg2) (i := (.invokevirtual 260, 3, 166, 0, 9, 0, 415)) (mi_k198.2 _ _ (by rfl)) (ft_invS mi_pq166 (by rfl)) (cy := mi_c166) mi_pq166 rfl (kg166_116 hGg2.I hGg2.R x3 (toi20 hp2.1 hp2.2) (kCode_of (i1 := ig2) hE_code (hGg2.fi 7432 rfl) (hGg2.fa 120 rfl) (hGg2.fa 121 rfl) (hGg2.fa 122 rfl) (hGg2.fa 123 rfl))) (kj_d3 (n := n) (c := 9) (o1 := 30) (by decide)) ?_
    intro vg10 ig10 ag10 qg10 rg10 kg10 hg10
    have hGg10 := kG_call hGg2 kg10 (by decide +kernel)
    obtain ⟨hg10, og10⟩ := hg10
    have s11 : (x1 + 1).toInt = x1.toInt + (1 : Int32).toInt := kd_add (toi9 hp0.1 ktoi1) (toi21 hp0.2.2 hp4 ktoi1)
    refine ft_go mi_k198 8 37 [(0, .ref 116), (1, .int x1), (2, .int x2), (3, .int x3), (4, .int x4)] [.int x4, .int x3, .int x2, .int (x1 + 1), .ref 116] ig10 ag10 qg10 rg10 (by rfl) ?_
    obtain ⟨m, hm, hmI⟩ := kj_pred (toi22 hp1 hp4)
    refine ko_callI mi_k198.1 (pc := 37) (ls := [(0, .ref 116), (1, .int x1), (2, .int x2), (3, .int x3), (4, .int x4)]) (st := [.int x4, .int x3, .int x2, .int (x1 + 1), .ref 116]) (h := ks ig10 ag10 qg10 rg10) (i := (.invokevirtual 333, 3, 199, 0, 9, 0, 451)) (mi_k198.2 _ _ (by rfl)) (ft_invS mi_pq199 (by rfl)) (cy := mi_c199) mi_pq199 rfl ((ih m hm).1 _ _ _ _ hGg10.I hGg10.R (x1 + 1) x2 x3 x4 (toi23 hp0.1 hp0.2.2 hp4 s11 ktoi1) (toi24 hmI hp1 s11 ktoi1) (toi20 hp2.1 hp2.2) (toi20 hp3.1 hp3.2) (kCode_of (i1 := ig10) hE_code (hGg10.fi 7432 rfl) (hGg10.fa 120 rfl) (hGg10.fa 121 rfl) (hGg10.fa 122 rfl) (hGg10.fa 123 rfl))) (kj_d2 (n := n) (m := m) (o := 31) (o1 := 30) hm (by decide)) ?_
    intro vg12 ig12 ag12 qg12 rg12 kg12 hg12
    have hGg12 := kG_call hGg10 kg12 (by decide +kernel)
    obtain ⟨hg12, og12⟩ := hg12
    refine ft_go mi_k198 7 51 [(5, .int vg12), (0, .ref 116), (1, .int x1), (2, .int x2), (3, .int x3), (4, .int x4)] [.int (31 * x1), .ref 140, .ref 116] ig12 ag12 qg12 rg12 (by rfl) ?_
    refine ko_callN mi_k198.1 (pc := 51) (ls := [(5, .int vg12), (0, .ref 116), (1, .int x1), (2, .int x2), (3, .int x3), (4, .int x4)]) (st := [.int (31 * x1), .ref 140, .ref 116]) (h := ks ig12 ag12 qg12 rg12) (i := (.invokevirtual 273, 3, 169, 0, 9, 0, 423)) (mi_k198.2 _ _ (by rfl)) (ft_invS mi_pq169 (by rfl)) (cy := mi_c169) mi_pq169 rfl (ke169_116_140 hGg12.I hGg12.R (31 * x1) (toi19 hp0.1 hp0.2.2 hp4 s1) (by have := ktoi0; have := ktoi1; omega)) (kj_d3 (n := n) (c := 1) (o1 := 30) (by decide)) ?_
    intro ig13 ag13 qg13 rg13 kg13 hg13
    have hGg13 := kG_call hGg12 kg13 (by decide +kernel)
    obtain ⟨hg13, og13⟩ := hg13
    refine ft_go mi_k198 1 56 [(5, .int vg12), (0, .ref 116), (1, .int x1), (2, .int x2), (3, .int x3), (4, .int x4)] [.int vg12] ig13 ag13 qg13 rg13 (by rfl) ?_
    exact ft_ret mi_k198 (by rfl) (hP vg12 _ _ _ _ hGg13 ⟨trivial, ⟨gTv_ca (K := gKn i a) (N := a 118) (x := x3) (y := (x1 + 1)) og12.1 (gKn_fr hGg10 (by decide +kernel) : gKn ig10 ag10 = gKn i a) (show ag10 118 = (gIn (gKn ig2 ag2) x3 (gT ig2 ag2)).1 from (rfl).trans (congrArg Prod.fst og10)) (gKn_fr hGg2 (by decide +kernel) : gKn ig2 ag2 = gKn i a) (show (gT ig2 ag2).1 = a 118 from (kg2.fa 118 rfl)) (Or.inl ⟨(toi27 c9 s3 ktoi0), rfl⟩) (toi14 s11 ktoi1) (toi5 hp0.1), (ca_end (b := (31 * x1).toInt.toNat) (b1 := (31 * (x1 + 1).toInt).toNat) (b2 := (31 * x1.toInt).toNat) (kCopd_cast og2.1 rfl rfl (Int.le_refl _)) (kLow_cast og2.2 rfl rfl (Nat.le_refl _)) ((kg10.fa 140 rfl)) og12.2.2 (kCopb_cast og13 rfl rfl (Int.le_refl _)) (kg13.fa 140 rfl) (kj_31 (toi26 s1) (toi14 s11 ktoi1) (toi5 hp0.1)) (kj_31b (toi26 s1)) (hGg13.I.2.1 118) (hG.I.2.1 118))⟩⟩)
set_option maxRecDepth 100000 in
theorem kLsVE_199 (n : Nat) (h198 : kLVE_198 n) (ih : ∀ m, n = m + 1 → kLVE_199 m ∧ kLVE_198 m) : kLVE_199 n := by
  intro i a q r hI hr x1 x2 x3 x4 hp0 hp1 hp2 hp3 hE_code
  have hG := kG_self wVE hI hr
  refine km_ofI (q := (mi_h199, mi_c199)) rfl (by decide) (Nat.le_of_ble_eq_true rfl) ?_
  intro P hP
  have hn0 : (0 : Int) ≤ (n : Int) := Int.natCast_nonneg n
  refine ft_go mi_k199 2 2 [(0, .ref 116), (1, .int x1), (2, .int x2), (3, .int x3), (4, .int x4)] [.int x2, .int x1] i a q r (by rfl) ?_
  refine ft_if mi_k199 (x1 != x2) 20 5 [(0, .ref 116), (1, .int x1), (2, .int x2), (3, .int x3), (4, .int x4)] [] (by rfl) (fun c => ?_) (fun c => ?_)
  ·
    have c1 : x1.toInt ≠ x2.toInt := kd_ne c; clear c
    have s2 : (x1 + 1).toInt = x1.toInt + (1 : Int32).toInt := kd_add (toi9 hp0.1 ktoi1) (toi28 hp0.2.1 hp0.2.2 ktoi1)
    refine ft_go mi_k199 7 28 [(0, .ref 116), (1, .int x1), (2, .int x2), (3, .int x3), (4, .int x4)] [.int x4, .int x3, .int x2, .int (x1 + 1), .ref 116] i a q r (by rfl) ?_
    obtain ⟨m, hm, hmI⟩ := kj_pred (toi29 c1 hn0 hp1)
    refine ko_callI mi_k199.1 (pc := 28) (ls := [(0, .ref 116), (1, .int x1), (2, .int x2), (3, .int x3), (4, .int x4)]) (st := [.int x4, .int x3, .int x2, .int (x1 + 1), .ref 116]) (h := ks i a q r) (i := (.invokevirtual 333, 3, 199, 0, 9, 0, 451)) (mi_k199.2 _ _ (by rfl)) (ft_invS mi_pq199 (by rfl)) (cy := mi_c199) mi_pq199 rfl ((ih m hm).1 _ _ _ _ hG.I hG.R (x1 + 1) x2 x3 x4 (toi30 c1 hp0.1 hp0.2.1 hp0.2.2 s2 ktoi1) (toi24 hmI hp1 s2 ktoi1) (toi20 hp2.1 hp2.2) (toi20 hp3.1 hp3.2) (kCode_of (i1 := i) hE_code (hG.fi 7432 rfl) (hG.fa 120 rfl) (hG.fa 121 rfl) (hG.fa 122 rfl) (hG.fa 123 rfl))) (kj_d2 (n := n) (m := m) (o := 31) (o1 := 31) hm (by decide)) ?_
    intro vg3 ig3 ag3 qg3 rg3 kg3 hg3
    have hGg3 := kG_call hG kg3 (by decide +kernel)
    obtain ⟨hg3, og3⟩ := hg3
    refine ft_go mi_k199 6 39 [(5, .int vg3), (0, .ref 116), (1, .int x1), (2, .int x2), (3, .int x3), (4, .int x4)] [.int x4, .int x3, .int x2, .int x1, .ref 116] ig3 ag3 qg3 rg3 (by rfl) ?_
    refine ko_callI mi_k199.1 (pc := 39) (ls := [(5, .int vg3), (0, .ref 116), (1, .int x1), (2, .int x2), (3, .int x3), (4, .int x4)]) (st := [.int x4, .int x3, .int x2, .int x1, .ref 116]) (h := ks ig3 ag3 qg3 rg3) (i := (.invokevirtual 337, 3, 198, 0, 9, 0, 452)) (mi_k199.2 _ _ (by rfl)) (ft_invS mi_pq198 (by rfl)) (cy := mi_c198) mi_pq198 rfl (h198 _ _ _ _ hGg3.I hGg3.R x1 x2 x3 x4 (toi31 hp0.1 hp0.2.1 hp0.2.2) (toi32 hp1) (toi20 hp2.1 hp2.2) (toi20 hp3.1 hp3.2) (toi33 c1 hp0.2.1) (kCode_of (i1 := ig3) hE_code (hGg3.fi 7432 rfl) (hGg3.fa 120 rfl) (hGg3.fa 121 rfl) (hGg3.fa 122 rfl) (hGg3.fa 123 rfl))) (kj_d1 (n := n) (o := 30) (o1 := 31) (by decide)) ?_
    intro vg4 ig4 ag4 qg4 rg4 kg4 hg4
    have hGg4 := kG_call hGg3 kg4 (by decide +kernel)
    obtain ⟨hg4, og4⟩ := hg4
    have s5 : (x1 - x1 / 2 * 2).toInt = (x1.toInt % 2) := kd_rem 2 ktoi2 (by decide) (toi5 hp0.1)
    refine ft_go mi_k199 4 47 [(6, .int vg4), (5, .int vg3), (0, .ref 116), (1, .int x1), (2, .int x2), (3, .int x3), (4, .int x4)] [.int (x1 - x1 / 2 * 2)] ig4 ag4 qg4 rg4 (by rfl) ?_
    refine ft_if mi_k199 ((x1 - x1 / 2 * 2) != 0) 60 50 [(6, .int vg4), (5, .int vg3), (0, .ref 116), (1, .int x1), (2, .int x2), (3, .int x3), (4, .int x4)] [] (by rfl) (fun c => ?_) (fun c => ?_)
    ·
      have c6 : (x1 - x1 / 2 * 2).toInt ≠ (0 : Int32).toInt := kd_ne c; clear c
      refine ft_go mi_k199 2 64 [(6, .int vg4), (5, .int vg3), (0, .ref 116), (1, .int x1), (2, .int x2), (3, .int x3), (4, .int x4)] [.int vg4, .int vg3] ig4 ag4 qg4 rg4 (by rfl) ?_
      have m8 : (((bif decide (vg4 < vg3) then vg4 else vg3).toInt ≤ vg3.toInt) ∧ ((bif decide (vg4 < vg3) then vg4 else vg3).toInt ≤ vg4.toInt)) ∧ ((bif decide (vg4 < vg3) then vg4 else vg3).toInt = vg3.toInt ∨ (bif decide (vg4 < vg3) then vg4 else vg3).toInt = vg4.toInt) := kd_min
      refine ft_go mi_k199 1 67 [(6, .int vg4), (5, .int vg3), (0, .ref 116), (1, .int x1), (2, .int x2), (3, .int x3), (4, .int x4)] [.int (bif decide (vg4 < vg3) then vg4 else vg3)] ig4 ag4 qg4 rg4 (by rfl) ?_
      generalize hm7 : (bif decide (vg4 < vg3) then vg4 else vg3) = m7 at m8 ⊢
      have qm7 := hm7.symm
      exact ft_ret mi_k199 (by rfl) (hP m7 _ _ _ _ hGg4 ⟨trivial, ⟨gTv_up (K := gKn i a) (N := a 118) (y := (x1 + 1)) (v1 := vg3) (v2 := vg4) og3.1 og4.1 rfl (gKn_fr hGg3 (by decide +kernel) : gKn ig3 ag3 = gKn i a) rfl (show ag3 118 = a 118 from (rfl).trans ((og3.2.1).trans rfl)) (toi14 s2 ktoi1) (toi5 hp0.1) (toi35 c1 hp0.2.1) (Or.inr (toi34 c6 m8.1.1 m8.1.2 m8.2 s5 ktoi0)), ⟨(show ag4 118 = a 118 from (rfl).trans ((og4.2.1).trans ((rfl).trans ((og3.2.1).trans rfl)))), kLow_trans (kLow_cast og4.2.2 (rfl) (rfl) (Nat.le_refl _)) (kLow_cast og3.2.2 rfl rfl (Nat.le_refl _)) (kj_31c (toi14 s2 ktoi1))⟩⟩⟩)
    ·
      have c9 : (x1 - x1 / 2 * 2).toInt = (0 : Int32).toInt := kd_neF c; clear c
      refine ft_go mi_k199 2 54 [(6, .int vg4), (5, .int vg3), (0, .ref 116), (1, .int x1), (2, .int x2), (3, .int x3), (4, .int x4)] [.int vg4, .int vg3] ig4 ag4 qg4 rg4 (by rfl) ?_
      have m11 : ((vg3.toInt ≤ (bif decide (vg3 < vg4) then vg4 else vg3).toInt) ∧ (vg4.toInt ≤ (bif decide (vg3 < vg4) then vg4 else vg3).toInt)) ∧ ((bif decide (vg3 < vg4) then vg4 else vg3).toInt = vg3.toInt ∨ (bif decide (vg3 < vg4) then vg4 else vg3).toInt = vg4.toInt) := kd_max
      refine ft_go mi_k199 1 57 [(6, .int vg4), (5, .int vg3), (0, .ref 116), (1, .int x1), (2, .int x2), (3, .int x3), (4, .int x4)] [.int (bif decide (vg3 < vg4) then vg4 else vg3)] ig4 ag4 qg4 rg4 (by rfl) ?_
      generalize hm10 : (bif decide (vg3 < vg4) then vg4 else vg3) = m10 at m11 ⊢
      have qm10 := hm10.symm
      refine ft_go mi_k199 1 67 [(6, .int vg4), (5, .int vg3), (0, .ref 116), (1, .int x1), (2, .int x2), (3, .int x3), (4, .int x4)] [.int m10] ig4 ag4 qg4 rg4 (by rfl) ?_
      exact ft_ret mi_k199 (by rfl) (hP m10 _ _ _ _ hGg4 ⟨trivial, ⟨gTv_up (K := gKn i a) (N := a 118) (y := (x1 + 1)) (v1 := vg3) (v2 := vg4) og3.1 og4.1 rfl (gKn_fr hGg3 (by decide +kernel) : gKn ig3 ag3 = gKn i a) rfl (show ag3 118 = a 118 from (rfl).trans ((og3.2.1).trans rfl)) (toi14 s2 ktoi1) (toi5 hp0.1) (toi35 c1 hp0.2.1) (Or.inl (toi36 c9 m11.1.1 m11.1.2 m11.2 s5 ktoi0)), ⟨(show ag4 118 = a 118 from (rfl).trans ((og4.2.1).trans ((rfl).trans ((og3.2.1).trans rfl)))), kLow_trans (kLow_cast og4.2.2 (rfl) (rfl) (Nat.le_refl _)) (kLow_cast og3.2.2 rfl rfl (Nat.le_refl _)) (kj_31c (toi14 s2 ktoi1))⟩⟩⟩)
  ·
    have c12 : x1.toInt = x2.toInt := kd_neF c; clear c
    refine ft_go mi_k199 3 10 [(0, .ref 116), (1, .int x1), (2, .int x2), (3, .int x3), (4, .int x4)] [.int x3, .ref 118] i a q r (by rfl) ?_
    refine ko_iald3 mi_k199.1 (n := 31) (c := 31) (ax := (0, 0, 0, 0, 0)) (mi_k199.2 _ _ (by rfl)) (by rfl) (ksG118 _ _ _ _) (hG.I.2.1 118) rfl (toi5 hp2.1) (toi37 hp2.2) ?_
    have r13 : ((x3.toInt = 18 → (0 : Int) ≤ ((a 118).getD x3.toNatClampNeg 0).toInt ∧ ((a 118).getD x3.toNatClampNeg 0).toInt ≤ 5)) ∧ ((19 ≤ x3.toInt → x3.toInt ≤ 24 → (0 : Int) ≤ ((a 118).getD x3.toNatClampNeg 0).toInt ∧ ((a 118).getD x3.toNatClampNeg 0).toInt ≤ 7)) := kE_ncond (p := 118) hG.I (by decide) (j := x3) (toi5 hp2.1)
    refine ft_go mi_k199 3 17 [(0, .ref 116), (1, .int x1), (2, .int x2), (3, .int x3), (4, .int x4)] [.int x4, .ref 118, .int ((a 118).getD x3.toNatClampNeg 0)] i a q r (by rfl) ?_
    refine ko_iald3 mi_k199.1 (n := 31) (c := 31) (ax := (0, 0, 0, 0, 0)) (mi_k199.2 _ _ (by rfl)) (by rfl) (ksG118 _ _ _ _) (hG.I.2.1 118) rfl (toi5 hp3.1) (toi37 hp3.2) ?_
    have r14 : ((x4.toInt = 18 → (0 : Int) ≤ ((a 118).getD x4.toNatClampNeg 0).toInt ∧ ((a 118).getD x4.toNatClampNeg 0).toInt ≤ 5)) ∧ ((19 ≤ x4.toInt → x4.toInt ≤ 24 → (0 : Int) ≤ ((a 118).getD x4.toNatClampNeg 0).toInt ∧ ((a 118).getD x4.toNatClampNeg 0).toInt ≤ 7)) := kE_ncond (p := 118) hG.I (by decide) (j := x4) (toi5 hp3.1)
    have b15 : ((-2147483648 : Int) ≤ ((a 118).getD x3.toNatClampNeg 0).toInt) ∧ (((a 118).getD x3.toNatClampNeg 0).toInt ≤ 2147483647) := kd_bd ((a 118).getD x3.toNatClampNeg 0)
    have b16 : ((-2147483648 : Int) ≤ ((a 118).getD x4.toNatClampNeg 0).toInt) ∧ (((a 118).getD x4.toNatClampNeg 0).toInt ≤ 2147483647) := kd_bd ((a 118).getD x4.toNatClampNeg 0)
    refine ft_go mi_k199 1 19 [(0, .ref 116), (1, .int x1), (2, .int x2), (3, .int x3), (4, .int x4)] [.int (((a 118).getD x3.toNatClampNeg 0) - ((a 118).getD x4.toNatClampNeg 0))] i a q r (by rfl) ?_
    exact ft_ret mi_k199 (by rfl) (hP (((a 118).getD x3.toNatClampNeg 0) - ((a 118).getD x4.toNatClampNeg 0)) _ _ _ _ hG ⟨trivial, ⟨gTv_0 (toi38 c12 hp0.2.1), ⟨(show a 118 = a 118 from rfl), kLow_eq (rfl)⟩⟩⟩)
theorem kLallVE : ∀ n : Nat, kLVE_199 n ∧ kLVE_198 n
  | 0 => by
    have ih : ∀ m, 0 = m + 1 → kLVE_199 m ∧ kLVE_198 m := fun m h => by omega
    have h198 := kLsVE_198 0  ih
    have h199 := kLsVE_199 0 h198 ih
    exact ⟨h199, h198⟩
  | n + 1 => by
    have ih : ∀ m, n + 1 = m + 1 → kLVE_199 m ∧ kLVE_198 m := fun m h => by
      have e : n = m := by omega
      subst e
      exact kLallVE n
    have h198 := kLsVE_198 (n + 1)  ih
    have h199 := kLsVE_199 (n + 1) h198 ih
    exact ⟨h199, h198⟩

def yzw200_116 : kW := ([7464, 7465, 7466, 7467], [118, 128, 129, 140, 141], [], [])
set_option maxRecDepth 100000 in
theorem kz200_116 {i : Nat → Int32} {a : Nat → List Int32} {q : Nat → List Int64} {r : Nat → Nat} (hI : kI i a q) (hr : kr r) (x1 : Int32) (x2 : Int32) (x3 : Int32) (hE_code : kCode i a) : km 64 200 [.ref 116, .int x1, .int x2, .int x3] (ks i a q r) (kVI yzw200_116 i a q r (fun v i1 a1 q1 r1 => (True) ∧ (a1 118 = a 118 ∧ cTu (((0 : Int) ≤ x1.toInt) ∧ ((x1.toInt / 10) < (i 7424).toInt) ∧ ((x1.toInt % 10) < (i 7424).toInt) ∧ ((x1.toInt / 10) ≠ (x1.toInt % 10)) ∧ ((1 : Int) ≤ x2.toInt) ∧ (x2.toInt ≤ 5) ∧ ((0 : Int) ≤ x3.toInt) ∧ (x3.toInt ≤ 1)) v (fTu (gTv (gKn i a) (x1 / 10) (x1 - x1 / 10 * 10) x2.toInt.toNat (x2.toInt.toNat - 1) (a 118)) (gTv (gKn i a) (x1 / 10) (x1 - x1 / 10 * 10) x2.toInt.toNat (x2.toInt.toNat - 1) (gNx (gKn i a) (x1 / 10) (a 118))) v x3)))) := by
  have hG := kG_self yzw200_116 hI hr
  refine km_ofI (q := (mi_h200, mi_c200)) rfl (by decide) (Nat.le_of_ble_eq_true rfl) ?_
  intro P hP
  refine ft_go mi_k200 2 2 [(0, .ref 116), (1, .int x1), (2, .int x2), (3, .int x3)] [.int x1, .ref 116] i a q r (by rfl) ?_
  refine ko_callPI mi_k200.1 (pc := 2) (ls := [(0, .ref 116), (1, .int x1), (2, .int x2), (3, .int x3)]) (st := [.int x1, .ref 116]) (h := ks i a q r) (i := (.invokevirtual 308, 3, 186, 0, 9, 0, 438)) (mi_k200.2 _ _ (by rfl)) (ft_invS mi_pq186 (by rfl)) (cy := mi_c186) mi_pq186 rfl (kc186_116 hG.I hG.R x1) (by decide) ?_
  intro vg1 hg1
  rcases hg1 with ⟨eg1, hg1⟩ | ⟨eg1, hg1⟩
  ·
    subst eg1
    have fi_7424 : ((0 : Int) ≤ (i 7424).toInt) ∧ ((i 7424).toInt ≤ 8) := hG.I.1 7424
    have z2 : ((0 : Int) ≤ x1.toInt) ∧ (((x1.toInt / 10) < (i 7424).toInt) ∧ ((x1.toInt % 10) < (i 7424).toInt)) ∧ ((x1.toInt / 10) ≠ (x1.toInt % 10)) := hg1
    refine ft_go mi_k200 4 11 [(0, .ref 116), (1, .int x1), (2, .int x2), (3, .int x3)] [.int 5, .int 1, .int x2] i a q r (by rfl) ?_
    refine ko_callPI mi_k200.1 (pc := 11) (ls := [(0, .ref 116), (1, .int x1), (2, .int x2), (3, .int x3)]) (st := [.int 5, .int 1, .int x2]) (h := ks i a q r) (i := (.invokestatic 119, 3, 131, 0, 9, 0, 379)) (mi_k200.2 _ _ (by rfl)) (ft_invS mi_pq131 (by rfl)) (cy := mi_c131) mi_pq131 rfl (kc131 hG.I hG.R x2 1 5) (by decide) ?_
    intro vg3 hg3
    rcases hg3 with ⟨eg3, hg3⟩ | ⟨eg3, hg3⟩
    ·
      subst eg3
      have z4 : ((1 : Int32).toInt ≤ x2.toInt) ∧ (x2.toInt ≤ (5 : Int32).toInt) := hg3
      refine ft_go mi_k200 4 20 [(0, .ref 116), (1, .int x1), (2, .int x2), (3, .int x3)] [.int 1, .int 0, .int x3] i a q r (by rfl) ?_
      refine ko_callPI mi_k200.1 (pc := 20) (ls := [(0, .ref 116), (1, .int x1), (2, .int x2), (3, .int x3)]) (st := [.int 1, .int 0, .int x3]) (h := ks i a q r) (i := (.invokestatic 119, 3, 131, 0, 9, 0, 379)) (mi_k200.2 _ _ (by rfl)) (ft_invS mi_pq131 (by rfl)) (cy := mi_c131) mi_pq131 rfl (kc131 hG.I hG.R x3 0 1) (by decide) ?_
      intro vg5 hg5
      rcases hg5 with ⟨eg5, hg5⟩ | ⟨eg5, hg5⟩
      ·
        subst eg5
        have z6 : ((0 : Int32).toInt ≤ x3.toInt) ∧ (x3.toInt ≤ (1 : Int32).toInt) := hg5
        have s7 : (x1 / 10).toInt = (x1.toInt / 10) := kd_div 10 ktoi10 (by decide) (toi5 z2.1)
        have s8 : (x1 - x1 / 10 * 10).toInt = (x1.toInt % 10) := kd_rem 10 ktoi10 (by decide) (toi5 z2.1)
        refine ft_go mi_k200 10 41 [(0, .ref 116), (1, .int x1), (2, .int x2), (3, .int x3)] [.int (x1 - x1 / 10 * 10), .int (x1 / 10), .int x2, .int 1, .ref 116] i a q r (by rfl) ?_
        have nn1 := ktoi1
        have nn0 := ktoi0
        refine ko_callI mi_k200.1 (pc := 41) (ls := [(0, .ref 116), (1, .int x1), (2, .int x2), (3, .int x3)]) (st := [.int (x1 - x1 / 10 * 10), .int (x1 / 10), .int x2, .int 1, .ref 116]) (h := ks i a q r) (i := (.invokevirtual 333, 3, 199, 0, 9, 0, 451)) (mi_k200.2 _ _ (by rfl)) (ft_invS mi_pq199 (by rfl)) (cy := mi_c199) mi_pq199 rfl ((kLallVE ((x2.toInt - (1 : Int32).toInt).toNat)).1 _ _ _ _ hG.I hG.R 1 x2 (x1 / 10) (x1 - x1 / 10 * 10) (toi52 z4.1 z4.2 ktoi1 ktoi5) (by have := ktoi0; have := ktoi1; have := ktoi5; omega) (toi53 fi_7424.2 s7 z2.1 z2.2.1.1 z2.2.1.2 z2.2.2) (toi54 fi_7424.2 s8 z2.2.1.2) (kCode_of (i1 := i) hE_code (hG.fi 7432 rfl) (hG.fa 120 rfl) (hG.fa 121 rfl) (hG.fa 122 rfl) (hG.fa 123 rfl))) (by have := kn0; have := kn1; have := kn5; omega) ?_
        intro vg9 ig9 ag9 qg9 rg9 kg9 hg9
        have hGg9 := kG_call hG kg9 (by decide +kernel)
        obtain ⟨hg9, og9⟩ := hg9
        refine ft_go mi_k200 10 57 [(4, .int vg9), (0, .ref 116), (1, .int x1), (2, .int x2), (3, .int x3)] [.int (x1 - x1 / 10 * 10), .int (x1 / 10), .int x2, .int 0, .ref 116] ig9 ag9 qg9 rg9 (by rfl) ?_
        have nn0 := ktoi0
        have nn0 := ktoi0
        refine ko_callI mi_k200.1 (pc := 57) (ls := [(4, .int vg9), (0, .ref 116), (1, .int x1), (2, .int x2), (3, .int x3)]) (st := [.int (x1 - x1 / 10 * 10), .int (x1 / 10), .int x2, .int 0, .ref 116]) (h := ks ig9 ag9 qg9 rg9) (i := (.invokevirtual 337, 3, 198, 0, 9, 0, 452)) (mi_k200.2 _ _ (by rfl)) (ft_invS mi_pq198 (by rfl)) (cy := mi_c198) mi_pq198 rfl ((kLallVE ((x2.toInt - (0 : Int32).toInt).toNat)).2 _ _ _ _ hGg9.I hGg9.R 0 x2 (x1 / 10) (x1 - x1 / 10 * 10) (toi57 z4.1 z4.2 ktoi1 ktoi5 ktoi0) (by have := ktoi0; have := ktoi1; have := ktoi5; omega) (toi53 fi_7424.2 s7 z2.1 z2.2.1.1 z2.2.1.2 z2.2.2) (toi54 fi_7424.2 s8 z2.2.1.2) (toi58 z4.1 ktoi1 ktoi0) (kCode_of (i1 := ig9) hE_code (hGg9.fi 7432 rfl) (hGg9.fa 120 rfl) (hGg9.fa 121 rfl) (hGg9.fa 122 rfl) (hGg9.fa 123 rfl))) (by have := kn0; have := kn1; have := kn5; omega) ?_
        intro vg10 ig10 ag10 qg10 rg10 kg10 hg10
        have hGg10 := kG_call hGg9 kg10 (by decide +kernel)
        obtain ⟨hg10, og10⟩ := hg10
        refine ft_go mi_k200 2 63 [(5, .int vg10), (4, .int vg9), (0, .ref 116), (1, .int x1), (2, .int x2), (3, .int x3)] [.int x3] ig10 ag10 qg10 rg10 (by rfl) ?_
        refine ft_if mi_k200 (x3 != 0) 76 66 [(5, .int vg10), (4, .int vg9), (0, .ref 116), (1, .int x1), (2, .int x2), (3, .int x3)] [] (by rfl) (fun c => ?_) (fun c => ?_)
        ·
          have c11 : x3.toInt ≠ (0 : Int32).toInt := kd_ne c; clear c
          refine ft_go mi_k200 2 80 [(5, .int vg10), (4, .int vg9), (0, .ref 116), (1, .int x1), (2, .int x2), (3, .int x3)] [.int vg9, .int vg10] ig10 ag10 qg10 rg10 (by rfl) ?_
          refine ft_if mi_k200 (decide (vg10 ≤ vg9)) 87 83 [(5, .int vg10), (4, .int vg9), (0, .ref 116), (1, .int x1), (2, .int x2), (3, .int x3)] [] (by rfl) (fun c => ?_) (fun c => ?_)
          ·
            have c12 : vg10.toInt ≤ vg9.toInt := kd_le c; clear c
            refine ft_go mi_k200 1 88 [(5, .int vg10), (4, .int vg9), (0, .ref 116), (1, .int x1), (2, .int x2), (3, .int x3)] [.int 0] ig10 ag10 qg10 rg10 (by rfl) ?_
            exact ft_ret mi_k200 (by rfl) (hP 0 _ _ _ _ hGg10 ⟨trivial, ⟨(show ag10 118 = a 118 from (by first | rfl | (simp only [og10.2.1, og9.2.1, sMn, sMx]; done) | (simp only [og10.2.1, og9.2.1, sMn, sMx]; rfl))), (Or.inr ⟨(toi60 z2.1 z2.2.1.1 z2.2.1.2 z2.2.2 z4.1 z4.2 z6.1 z6.2 ktoi1 ktoi5 ktoi0), (fTu_of (gTv_top1 og9.1 rfl rfl (toi55 ktoi1) (toi56 z4.1 ktoi1)) (gTv_top2 og10.1 (gKn_fr hGg9 (by decide +kernel) : gKn ig9 ag9 = gKn i a) (show ag9 118 = a 118 from (by first | rfl | (simp only [og9.2.1, sMn, sMx]; done) | (simp only [og9.2.1, sMn, sMx]; rfl))) (toi59 ktoi0) (toi56 z4.1 ktoi1)) ⟨fun h => absurd h (toi61 c11 z6.1 ktoi0), fun _ => ⟨fun z => absurd z (toi63 c12), fun z => (toi59 ktoi0)⟩⟩)⟩)⟩⟩)
          ·
            have c13 : vg9.toInt < vg10.toInt := kd_leF c; clear c
            refine ft_go mi_k200 2 88 [(5, .int vg10), (4, .int vg9), (0, .ref 116), (1, .int x1), (2, .int x2), (3, .int x3)] [.int 1] ig10 ag10 qg10 rg10 (by rfl) ?_
            exact ft_ret mi_k200 (by rfl) (hP 1 _ _ _ _ hGg10 ⟨trivial, ⟨(show ag10 118 = a 118 from (by first | rfl | (simp only [og10.2.1, og9.2.1, sMn, sMx]; done) | (simp only [og10.2.1, og9.2.1, sMn, sMx]; rfl))), (Or.inr ⟨(toi60 z2.1 z2.2.1.1 z2.2.1.2 z2.2.2 z4.1 z4.2 z6.1 z6.2 ktoi1 ktoi5 ktoi0), (fTu_of (gTv_top1 og9.1 rfl rfl (toi55 ktoi1) (toi56 z4.1 ktoi1)) (gTv_top2 og10.1 (gKn_fr hGg9 (by decide +kernel) : gKn ig9 ag9 = gKn i a) (show ag9 118 = a 118 from (by first | rfl | (simp only [og9.2.1, sMn, sMx]; done) | (simp only [og9.2.1, sMn, sMx]; rfl))) (toi59 ktoi0) (toi56 z4.1 ktoi1)) ⟨fun h => absurd h (toi61 c11 z6.1 ktoi0), fun _ => ⟨fun z => (toi55 ktoi1), fun z => absurd (toi64 c13) z⟩⟩)⟩)⟩⟩)
        ·
          have c14 : x3.toInt = (0 : Int32).toInt := kd_neF c; clear c
          refine ft_go mi_k200 2 70 [(5, .int vg10), (4, .int vg9), (0, .ref 116), (1, .int x1), (2, .int x2), (3, .int x3)] [.int vg10, .int vg9] ig10 ag10 qg10 rg10 (by rfl) ?_
          have m16 : ((vg9.toInt ≤ (bif decide (vg9 < vg10) then vg10 else vg9).toInt) ∧ (vg10.toInt ≤ (bif decide (vg9 < vg10) then vg10 else vg9).toInt)) ∧ ((bif decide (vg9 < vg10) then vg10 else vg9).toInt = vg9.toInt ∨ (bif decide (vg9 < vg10) then vg10 else vg9).toInt = vg10.toInt) := kd_max
          refine ft_go mi_k200 1 73 [(5, .int vg10), (4, .int vg9), (0, .ref 116), (1, .int x1), (2, .int x2), (3, .int x3)] [.int (bif decide (vg9 < vg10) then vg10 else vg9)] ig10 ag10 qg10 rg10 (by rfl) ?_
          generalize hm15 : (bif decide (vg9 < vg10) then vg10 else vg9) = m15 at m16 ⊢
          have qm15 := hm15.symm
          refine ft_go mi_k200 1 88 [(5, .int vg10), (4, .int vg9), (0, .ref 116), (1, .int x1), (2, .int x2), (3, .int x3)] [.int m15] ig10 ag10 qg10 rg10 (by rfl) ?_
          exact ft_ret mi_k200 (by rfl) (hP m15 _ _ _ _ hGg10 ⟨trivial, ⟨(show ag10 118 = a 118 from (by first | rfl | (simp only [og10.2.1, og9.2.1, sMn, sMx]; done) | (simp only [og10.2.1, og9.2.1, sMn, sMx]; rfl))), (Or.inr ⟨(toi60 z2.1 z2.2.1.1 z2.2.1.2 z2.2.2 z4.1 z4.2 z6.1 z6.2 ktoi1 ktoi5 ktoi0), (fTu_of (gTv_top1 og9.1 rfl rfl (toi55 ktoi1) (toi56 z4.1 ktoi1)) (gTv_top2 og10.1 (gKn_fr hGg9 (by decide +kernel) : gKn ig9 ag9 = gKn i a) (show ag9 118 = a 118 from (by first | rfl | (simp only [og9.2.1, sMn, sMx]; done) | (simp only [og9.2.1, sMn, sMx]; rfl))) (toi59 ktoi0) (toi56 z4.1 ktoi1)) ⟨fun _ => (toi66 m16.1.1 m16.1.2 m16.2), fun h => absurd h (toi67 c14 ktoi0)⟩)⟩)⟩⟩)
      ·
        subst eg5
        have z17 : ¬ (((0 : Int32).toInt ≤ x3.toInt) ∧ (x3.toInt ≤ (1 : Int32).toInt)) := hg5
        refine ft_go mi_k200 2 29 [(0, .ref 116), (1, .int x1), (2, .int x2), (3, .int x3)] [.int (-2000000000)] i a q r (by rfl) ?_
        exact ft_ret mi_k200 (by rfl) (hP (-2000000000) _ _ _ _ hG ⟨trivial, ⟨(show a 118 = a 118 from rfl), (Or.inl ⟨(toi68 z17 ktoi0 ktoi1), rfl⟩)⟩⟩)
    ·
      subst eg3
      have z18 : ¬ (((1 : Int32).toInt ≤ x2.toInt) ∧ (x2.toInt ≤ (5 : Int32).toInt)) := hg3
      refine ft_go mi_k200 2 29 [(0, .ref 116), (1, .int x1), (2, .int x2), (3, .int x3)] [.int (-2000000000)] i a q r (by rfl) ?_
      exact ft_ret mi_k200 (by rfl) (hP (-2000000000) _ _ _ _ hG ⟨trivial, ⟨(show a 118 = a 118 from rfl), (Or.inl ⟨(toi69 z18 ktoi1 ktoi5), rfl⟩)⟩⟩)
  ·
    subst eg1
    have z19 : ¬ (((0 : Int) ≤ x1.toInt) ∧ (((x1.toInt / 10) < (i 7424).toInt) ∧ ((x1.toInt % 10) < (i 7424).toInt)) ∧ ((x1.toInt / 10) ≠ (x1.toInt % 10))) := hg1
    refine ft_go mi_k200 2 29 [(0, .ref 116), (1, .int x1), (2, .int x2), (3, .int x3)] [.int (-2000000000)] i a q r (by rfl) ?_
    exact ft_ret mi_k200 (by rfl) (hP (-2000000000) _ _ _ _ hG ⟨trivial, ⟨(show a 118 = a 118 from rfl), (Or.inl ⟨(toi70 z19), rfl⟩)⟩⟩)
