/-! BUYERS FROM A ROW, PURELY -/
abbrev kBt : Type := Int32 × List Int32 × List Int32 × List Int32 × List Int32 × List Int32
abbrev kBr : Type := Int32 × List Int32 × List Int32
def kOk3 (p w h : Int32) : Prop := (0 ≤ p.toInt ∧ p.toInt ≤ 999) ∧ (0 ≤ w.toInt ∧ w.toInt ≤ 9) ∧ (0 ≤ h.toInt ∧ h.toInt ≤ 9)
def bOk (p w h : Int32) : Bool := decide (0 ≤ p.toInt ∧ p.toInt ≤ 999) && (decide (0 ≤ w.toInt ∧ w.toInt ≤ 9) && decide (0 ≤ h.toInt ∧ h.toInt ≤ 9))
theorem bOk_t {p w h : Int32} (x : kOk3 p w h) : bOk p w h = true := by
  unfold bOk
  rw [decide_eq_true x.1, decide_eq_true x.2.1, decide_eq_true x.2.2]
  rfl
theorem bOk_f {p w h : Int32} (x : ¬ kOk3 p w h) : bOk p w h = false := by
  cases e : bOk p w h with
  | false => rfl
  | true =>
    unfold bOk at e
    simp only [Bool.and_eq_true, decide_eq_true_eq] at e
    exact absurd e x
def bAdd (p w h : Int32) (S : kBt) : kBt := (S.1 + 1, S.2.1.set S.1.toNatClampNeg p, S.2.2.1.set S.1.toNatClampNeg w, S.2.2.2.1.set S.1.toNatClampNeg h, S.2.2.2.2.1.set S.1.toNatClampNeg 0, S.2.2.2.2.2.set S.1.toNatClampNeg 0)
def rAdb (p w h : Int32) (S : kBr) : kBr := (S.1 + 1, S.2.1.set S.1.toNatClampNeg p, (S.2.2.set S.1.toNatClampNeg w).set (8 + S.1).toNatClampNeg h)
def bThr (V : Nat → Int32) (len : Int) : Nat → Nat → kBt → kBt
  | 0, _, S => S
  | n + 1, p, S => bif decide (S.1.toInt < 8) && (decide ((p : Int) + 2 < len) && bOk (V p) (V (p + 1)) (V (p + 2))) then bThr V len n (p + 3) (bAdd (V p) (V (p + 1)) (V (p + 2)) S) else S
def rThr (V : Nat → Int32) (len : Int) : Nat → Nat → kBr → kBr
  | 0, _, S => S
  | n + 1, p, S => bif decide (S.1.toInt < 8) && (decide ((p : Int) + 2 < len) && bOk (V p) (V (p + 1)) (V (p + 2))) then rThr V len n (p + 3) (rAdb (V p) (V (p + 1)) (V (p + 2)) S) else S
def vQ (Q : List Int64) (b : Nat) (j : Nat) : Int32 := (Q.getD (b + j) 0).toInt32
theorem bThr_end {V : Nat → Int32} {len : Int} {m p : Nat} {S R : kBt} (h : bThr V len m p S = R) (hm : m = 0) : S = R := by subst hm; exact h
theorem bThr_no {V : Nat → Int32} {len : Int} {m p : Nat} {S R : kBt} (h : bThr V len m p S = R) (hc : ¬ (S.1.toInt < 8 ∧ (p : Int) + 2 < len ∧ kOk3 (V p) (V (p + 1)) (V (p + 2)))) : S = R := by
  cases m with
  | zero => exact h
  | succ n =>
    unfold bThr at h
    have e : (decide (S.1.toInt < 8) && (decide ((p : Int) + 2 < len) && bOk (V p) (V (p + 1)) (V (p + 2)))) = false := by
      by_cases c1 : S.1.toInt < 8
      · by_cases c2 : (p : Int) + 2 < len
        · rw [bOk_f (fun z => hc ⟨c1, c2, z⟩), Bool.and_false, Bool.and_false]
        · rw [decide_eq_false c2, Bool.false_and, Bool.and_false]
      · rw [decide_eq_false c1, Bool.false_and]
    rw [e] at h
    exact h
theorem bThr_more {V : Nat → Int32} {len : Int} {m n p : Nat} {S R : kBt} (h : bThr V len m p S = R) (hm : m = n + 1) (h1 : S.1.toInt < 8) (h2 : (p : Int) + 2 < len) (h3 : kOk3 (V p) (V (p + 1)) (V (p + 2))) : bThr V len n (p + 3) (bAdd (V p) (V (p + 1)) (V (p + 2)) S) = R := by
  subst hm
  unfold bThr at h
  rw [decide_eq_true h1, decide_eq_true h2, bOk_t h3] at h
  exact h
theorem rThr_end {V : Nat → Int32} {len : Int} {m p : Nat} {S R : kBr} (h : rThr V len m p S = R) (hm : m = 0) : S = R := by subst hm; exact h
theorem rThr_no {V : Nat → Int32} {len : Int} {m p : Nat} {S R : kBr} (h : rThr V len m p S = R) (hc : ¬ (S.1.toInt < 8 ∧ (p : Int) + 2 < len ∧ kOk3 (V p) (V (p + 1)) (V (p + 2)))) : S = R := by
  cases m with
  | zero => exact h
  | succ n =>
    unfold rThr at h
    have e : (decide (S.1.toInt < 8) && (decide ((p : Int) + 2 < len) && bOk (V p) (V (p + 1)) (V (p + 2)))) = false := by
      by_cases c1 : S.1.toInt < 8
      · by_cases c2 : (p : Int) + 2 < len
        · rw [bOk_f (fun z => hc ⟨c1, c2, z⟩), Bool.and_false, Bool.and_false]
        · rw [decide_eq_false c2, Bool.false_and, Bool.and_false]
      · rw [decide_eq_false c1, Bool.false_and]
    rw [e] at h
    exact h
theorem rThr_more {V : Nat → Int32} {len : Int} {m n p : Nat} {S R : kBr} (h : rThr V len m p S = R) (hm : m = n + 1) (h1 : S.1.toInt < 8) (h2 : (p : Int) + 2 < len) (h3 : kOk3 (V p) (V (p + 1)) (V (p + 2))) : rThr V len n (p + 3) (rAdb (V p) (V (p + 1)) (V (p + 2)) S) = R := by
  subst hm
  unfold rThr at h
  rw [decide_eq_true h1, decide_eq_true h2, bOk_t h3] at h
  exact h
/-! as the methods say it: the next three at y = x2 + 3 * k -/
theorem bt_idx {Q : List Int64} {b : Nat} {y : Int32} {p : Nat} (hy : y.toInt = ((b + p : Nat) : Int)) : (Q.getD y.toNatClampNeg 0).toInt32 = vQ Q b p := by
  have ty := Int32.toNat_toInt y
  unfold vQ
  rw [show y.toNatClampNeg = b + p by omega]
theorem bt_more {Q : List Int64} {len x2 x3 k k1 y y1 y2 : Int32} {S S1 R : kBt} (h : bThr (vQ Q 0) len.toInt (x3.toInt - k.toInt).toNat (x2.toInt + 3 * k.toInt).toNat S = R) (h0 : 0 ≤ x2.toInt) (hk : 0 ≤ k.toInt) (hlt : k.toInt < x3.toInt) (hy : y.toInt = x2.toInt + 3 * k.toInt) (hy1 : y1.toInt = y.toInt + 1) (hy2 : y2.toInt = y.toInt + 2) (hk1 : k1.toInt = k.toInt + 1)
    (c1 : S.1.toInt < 8) (c2 : y.toInt + 2 < len.toInt) (c3 : kOk3 (Q.getD y.toNatClampNeg 0).toInt32 (Q.getD y1.toNatClampNeg 0).toInt32 (Q.getD y2.toNatClampNeg 0).toInt32) (o : S1 = bAdd (Q.getD y.toNatClampNeg 0).toInt32 (Q.getD y1.toNatClampNeg 0).toInt32 (Q.getD y2.toNatClampNeg 0).toInt32 S) : bThr (vQ Q 0) len.toInt (x3.toInt - k1.toInt).toNat (x2.toInt + 3 * k1.toInt).toNat S1 = R := by
  have e0 := bt_idx (Q := Q) (b := 0) (y := y) (p := (x2.toInt + 3 * k.toInt).toNat) (by omega)
  have e1 := bt_idx (Q := Q) (b := 0) (y := y1) (p := (x2.toInt + 3 * k.toInt).toNat + 1) (by omega)
  have e2 := bt_idx (Q := Q) (b := 0) (y := y2) (p := (x2.toInt + 3 * k.toInt).toNat + 2) (by omega)
  rw [e0, e1, e2] at c3 o
  have g := bThr_more (n := (x3.toInt - k1.toInt).toNat) h (by omega) c1 (by omega) c3
  rw [o, show (x2.toInt + 3 * k1.toInt).toNat = (x2.toInt + 3 * k.toInt).toNat + 3 by omega]
  exact g
theorem bt_no {Q : List Int64} {len x2 x3 k y y1 y2 : Int32} {S R : kBt} (h : bThr (vQ Q 0) len.toInt (x3.toInt - k.toInt).toNat (x2.toInt + 3 * k.toInt).toNat S = R) (h0 : 0 ≤ x2.toInt) (hk : 0 ≤ k.toInt) (hy : y.toInt = x2.toInt + 3 * k.toInt) (hy1 : y1.toInt = y.toInt + 1) (hy2 : y2.toInt = y.toInt + 2)
    (c : ¬ (S.1.toInt < 8 ∧ y.toInt + 2 < len.toInt ∧ kOk3 (Q.getD y.toNatClampNeg 0).toInt32 (Q.getD y1.toNatClampNeg 0).toInt32 (Q.getD y2.toNatClampNeg 0).toInt32)) : S = R := by
  have e0 := bt_idx (Q := Q) (b := 0) (y := y) (p := (x2.toInt + 3 * k.toInt).toNat) (by omega)
  have e1 := bt_idx (Q := Q) (b := 0) (y := y1) (p := (x2.toInt + 3 * k.toInt).toNat + 1) (by omega)
  have e2 := bt_idx (Q := Q) (b := 0) (y := y2) (p := (x2.toInt + 3 * k.toInt).toNat + 2) (by omega)
  rw [e0, e1, e2] at c
  exact bThr_no h (fun z => c ⟨z.1, by omega, z.2.2⟩)
theorem rt_more {Q : List Int64} {b : Nat} {len x2 x3 k k1 y y1 y2 : Int32} {S S1 R : kBr} (h : rThr (vQ Q b) len.toInt (x3.toInt - k.toInt).toNat (x2.toInt + 3 * k.toInt).toNat S = R) (h0 : 0 ≤ x2.toInt) (hk : 0 ≤ k.toInt) (hlt : k.toInt < x3.toInt) (hy : y.toInt = (b : Int) + (x2.toInt + 3 * k.toInt)) (hy1 : y1.toInt = y.toInt + 1) (hy2 : y2.toInt = y.toInt + 2) (hk1 : k1.toInt = k.toInt + 1)
    (c1 : S.1.toInt < 8) (c2 : x2.toInt + 3 * k.toInt + 2 < len.toInt) (c3 : kOk3 (Q.getD y.toNatClampNeg 0).toInt32 (Q.getD y1.toNatClampNeg 0).toInt32 (Q.getD y2.toNatClampNeg 0).toInt32) (o : S1 = rAdb (Q.getD y.toNatClampNeg 0).toInt32 (Q.getD y1.toNatClampNeg 0).toInt32 (Q.getD y2.toNatClampNeg 0).toInt32 S) : rThr (vQ Q b) len.toInt (x3.toInt - k1.toInt).toNat (x2.toInt + 3 * k1.toInt).toNat S1 = R := by
  have e0 := bt_idx (Q := Q) (b := b) (y := y) (p := (x2.toInt + 3 * k.toInt).toNat) (by omega)
  have e1 := bt_idx (Q := Q) (b := b) (y := y1) (p := (x2.toInt + 3 * k.toInt).toNat + 1) (by omega)
  have e2 := bt_idx (Q := Q) (b := b) (y := y2) (p := (x2.toInt + 3 * k.toInt).toNat + 2) (by omega)
  rw [e0, e1, e2] at c3 o
  have g := rThr_more (n := (x3.toInt - k1.toInt).toNat) h (by omega) c1 (by omega) c3
  rw [o, show (x2.toInt + 3 * k1.toInt).toNat = (x2.toInt + 3 * k.toInt).toNat + 3 by omega]
  exact g
/-- not enough room, or no buyer more -/
theorem rt_stop {Q : List Int64} {b : Nat} {len x2 x3 k : Int32} {S R : kBr} (h : rThr (vQ Q b) len.toInt (x3.toInt - k.toInt).toNat (x2.toInt + 3 * k.toInt).toNat S = R) (h0 : 0 ≤ x2.toInt) (hk : 0 ≤ k.toInt) (c : len.toInt < x2.toInt + 3 * k.toInt + 3 ∨ 8 ≤ S.1.toInt) : S = R :=
  rThr_no h (fun z => by omega)
theorem rt_no {Q : List Int64} {b : Nat} {len x2 x3 k y y1 y2 : Int32} {S R : kBr} (h : rThr (vQ Q b) len.toInt (x3.toInt - k.toInt).toNat (x2.toInt + 3 * k.toInt).toNat S = R) (h0 : 0 ≤ x2.toInt) (hk : 0 ≤ k.toInt) (hy : y.toInt = (b : Int) + (x2.toInt + 3 * k.toInt)) (hy1 : y1.toInt = y.toInt + 1) (hy2 : y2.toInt = y.toInt + 2)
    (c : ¬ kOk3 (Q.getD y.toNatClampNeg 0).toInt32 (Q.getD y1.toNatClampNeg 0).toInt32 (Q.getD y2.toNatClampNeg 0).toInt32) : S = R := by
  have e0 := bt_idx (Q := Q) (b := b) (y := y) (p := (x2.toInt + 3 * k.toInt).toNat) (by omega)
  have e1 := bt_idx (Q := Q) (b := b) (y := y1) (p := (x2.toInt + 3 * k.toInt).toNat + 1) (by omega)
  have e2 := bt_idx (Q := Q) (b := b) (y := y2) (p := (x2.toInt + 3 * k.toInt).toNat + 2) (by omega)
  rw [e0, e1, e2] at c
  exact rThr_no h (fun z => c z.2.2)
theorem rThr_far {V : Nat → Int32} {len : Int} {m p : Nat} {S : kBr} (h : len ≤ (p : Int) + 2) : rThr V len m p S = S := (rThr_no rfl (fun z => by omega)).symm
/-! alike -/
def bRel (dy cm op t g t1 g1 : Int32) (Wh Mu : List Int32) (S : kBt) (R : kBr) : Prop :=
  S.1 = R.1 ∧ (0 ≤ S.1.toInt ∧ S.1.toInt ≤ 8) ∧ mNow S.1 S.2.1 S.2.2.2.2.2 dy cm op Wh Mu R.2.1 ∧ nRel (S.2.1, S.2.2.1, S.2.2.2.1, S.2.2.2.2.1, t, g, dy) (R.2.1, R.2.2, t1, g1) ∧ (∀ j : Nat, S.1.toInt ≤ (j : Int) → j < 8 → R.2.1.getD (10 + j) 0 = 0 ∧ R.2.2.getD (16 + j) 0 = 0) ∧ (S.2.1.length = 8 ∧ S.2.2.1.length = 8 ∧ S.2.2.2.1.length = 8 ∧ S.2.2.2.2.1.length = 8 ∧ S.2.2.2.2.2.length = 8 ∧ R.2.1.length = 31 ∧ R.2.2.length = 24)
theorem add_bRel {dy cm op t g t1 g1 p w h : Int32} {Wh Mu : List Int32} {S : kBt} {R : kBr} (H : bRel dy cm op t g t1 g1 Wh Mu S R) (h8 : S.1.toInt < 8) : bRel dy cm op t g t1 g1 Wh Mu (bAdd p w h S) (rAdb p w h R) ∧ (bAdd p w h S).1.toInt = S.1.toInt + 1 := by
  obtain ⟨b, P, W, Hh, D, O⟩ := S
  obtain ⟨b1, N, Y⟩ := R
  obtain ⟨e1, ⟨b0, b8⟩, mk, nr, ze, l1, l2, l3, l4, l5, l6, l7⟩ := H
  dsimp only at e1 b0 b8 mk nr ze l1 l2 l3 l4 l5 l6 l7 h8
  subst e1
  have eb : (b + 1).toInt = b.toInt + 1 := by
    have := kd_add (x := b) (y := 1) (by rw [(by decide : (1 : Int32).toInt = 1)]; omega) (by rw [(by decide : (1 : Int32).toInt = 1)]; omega)
    rw [this, (by decide : (1 : Int32).toInt = 1)]
  unfold bAdd rAdb
  dsimp only
  refine ⟨⟨rfl, ⟨by dsimp only; omega, by dsimp only; omega⟩, add_mk mk (fun j hj h8 => (ze j hj h8).1) b0 h8 eb l1 l5 l6, add_nr nr (fun j hj h8 => (ze j hj h8).2) b0 h8 l1 l2 l3 l4 l6 l7, add_ze ze b0 h8 eb l6 l7, ?_, ?_, ?_, ?_, ?_, ?_, ?_⟩, eb⟩
  all_goals (dsimp only; first | (rw [List.length_set]; assumption) | (rw [List.length_set, List.length_set]; assumption))
theorem thr_same {dy cm op t g t1 g1 : Int32} {Wh Mu : List Int32} {V V1 : Nat → Int32} {len : Int} (hV : ∀ j : Nat, (j : Int) < len → V j = V1 j) : ∀ (n p : Nat) (S : kBt) (R : kBr), bRel dy cm op t g t1 g1 Wh Mu S R → bRel dy cm op t g t1 g1 Wh Mu (bThr V len n p S) (rThr V1 len n p R) ∧ S.1.toInt ≤ (bThr V len n p S).1.toInt
  | 0, p, S, R, H => ⟨H, Int.le_refl _⟩
  | n + 1, p, S, R, H => by
    by_cases c : S.1.toInt < 8 ∧ (p : Int) + 2 < len ∧ kOk3 (V p) (V (p + 1)) (V (p + 2))
    · obtain ⟨c1, c2, c3⟩ := c
      have e0 := hV p (by omega)
      have e1 := hV (p + 1) (by omega)
      have e2 := hV (p + 2) (by omega)
      have g1 := bThr_more (n := n) (S := S) (R := bThr V len (n + 1) p S) rfl rfl c1 c2 c3
      have g2 := rThr_more (n := n) (S := R) (R := rThr V1 len (n + 1) p R) rfl rfl (by rw [← H.1]; exact c1) c2 (by rw [← e0, ← e1, ← e2]; exact c3)
      rw [← g1, ← g2, ← e0, ← e1, ← e2]
      obtain ⟨a1, a2⟩ := add_bRel (p := V p) (w := V (p + 1)) (h := V (p + 2)) H c1
      obtain ⟨i1, i2⟩ := thr_same hV n (p + 3) _ _ a1
      exact ⟨i1, by omega⟩
    · have c2 : ¬ (R.1.toInt < 8 ∧ (p : Int) + 2 < len ∧ kOk3 (V1 p) (V1 (p + 1)) (V1 (p + 2))) := fun z => c ⟨by rw [H.1]; exact z.1, z.2.1, by rw [hV p (by omega), hV (p + 1) (by omega), hV (p + 2) (by omega)]; exact z.2.2⟩
      rw [← bThr_no (S := S) (R := bThr V len (n + 1) p S) rfl c, ← rThr_no (S := R) (R := rThr V1 len (n + 1) p R) rfl c2]
      exact ⟨H, Int.le_refl _⟩
theorem kj_b60 {x : Int} (h : 0 ≤ x) : (((60 * x).toNat : Nat) : Int) = 60 * x := by omega
theorem kj_b60y {y c z : Int} {b : Nat} (hb : (b : Int) = c) (h : y = c + z) : y = (b : Int) + z := by omega
theorem kT6b {A B C D E F : Type} {a a1 : A} {b b1 : B} {c c1 : C} {d d1 : D} {e e1 : E} {f f1 : F} (h1 : a = a1) (h2 : b = b1) (h3 : c = c1) (h4 : d = d1) (h5 : e = e1) (h6 : f = f1) : (a, b, c, d, e, f) = (a1, b1, c1, d1, e1, f1) := by subst h1; subst h2; subst h3; subst h4; subst h5; subst h6; rfl
theorem kT3b {A B C : Type} {a a1 : A} {b b1 : B} {c c1 : C} (h1 : a = a1) (h2 : b = b1) (h3 : c = c1) : (a, b, c) = (a1, b1, c1) := by subst h1; subst h2; subst h3; rfl
theorem kj_inc {x y : Int32} (h : y.toInt = x.toInt + 1) (h8 : x.toInt < 8 ∧ 0 ≤ x.toInt) : y = x + 1 := kj_v (by
  have e : (x + 1).toInt = x.toInt + 1 := by
    have := kd_add (x := x) (y := 1) (by rw [(by decide : (1 : Int32).toInt = 1)]; omega) (by rw [(by decide : (1 : Int32).toInt = 1)]; omega)
    rw [this, (by decide : (1 : Int32).toInt = 1)]
  omega)

