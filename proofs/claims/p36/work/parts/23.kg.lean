/-! WHAT A METHOD WRITES: the invariant, and all else as it was -/
def kM (l : List Nat) (k : Nat) : Bool := l.any (fun z => Nat.beq z k)
def kG (l la lq : List Nat) (i0 : Nat → Int32) (a0 : Nat → List Int32) (q0 : Nat → List Int64) (i : Nat → Int32) (a : Nat → List Int32) (q : Nat → List Int64) : Prop :=
  kI i a q ∧ (∀ k, kM l k = false → i k = i0 k) ∧ (∀ p, kM la p = false → a p = a0 p) ∧ (∀ p, kM lq p = false → q p = q0 p)
theorem kG_self {l la lq : List Nat} {i : Nat → Int32} {a : Nat → List Int32} {q : Nat → List Int64} (h : kI i a q) : kG l la lq i a q i a q := ⟨h, fun _ _ => rfl, fun _ _ => rfl, fun _ _ => rfl⟩
theorem kG_i {l la lq : List Nat} {i0 : Nat → Int32} {a0 : Nat → List Int32} {q0 : Nat → List Int64} {i : Nat → Int32} {a : Nat → List Int32} {q : Nat → List Int64} (h : kG l la lq i0 a0 q0 i a q) (k : Nat) (hk : kM l k = true) {v : Int32} (hv : (kR k).1 ≤ v.toInt ∧ v.toInt ≤ (kR k).2) : kG l la lq i0 a0 q0 (ku i k v) a q := by
  refine ⟨kI_i h.1 k hv, fun n hn => ?_, h.2.2⟩
  rw [ku_other i v (fun e => by rw [e, hk] at hn; cases hn)]
  exact h.2.1 n hn
theorem kG_a {l la lq : List Nat} {i0 : Nat → Int32} {a0 : Nat → List Int32} {q0 : Nat → List Int64} {i : Nat → Int32} {a : Nat → List Int32} {q : Nat → List Int64} (h : kG l la lq i0 a0 q0 i a q) (p : Nat) (hk : kM la p = true) (j : Nat) {v : Int32} (hv : (kE p j).1 ≤ v.toInt ∧ v.toInt ≤ (kE p j).2) : kG l la lq i0 a0 q0 i (ku a p ((a p).set j v)) q := by
  refine ⟨kI_a h.1 p j hv, h.2.1, fun n hn => ?_, h.2.2.2⟩
  rw [ku_other a _ (fun e => by rw [e, hk] at hn; cases hn)]
  exact h.2.2.1 n hn
theorem kG_q {l la lq : List Nat} {i0 : Nat → Int32} {a0 : Nat → List Int32} {q0 : Nat → List Int64} {i : Nat → Int32} {a : Nat → List Int32} {q : Nat → List Int64} (h : kG l la lq i0 a0 q0 i a q) (p : Nat) (hk : kM lq p = true) {z : List Int64} (hz : z.length = kLq p) : kG l la lq i0 a0 q0 i a (ku q p z) := by
  refine ⟨kI_q h.1 p hz, h.2.1, h.2.2.1, fun n hn => ?_⟩
  rw [ku_other q _ (fun e => by rw [e, hk] at hn; cases hn)]
  exact h.2.2.2 n hn
theorem kM_sub {l l1 : List Nat} (hs : l1.all (kM l) = true) {k : Nat} (h : kM l k = false) : kM l1 k = false := by
  cases e : kM l1 k with
  | false => rfl
  | true =>
    obtain ⟨z, hz, hb⟩ := List.any_eq_true.mp e
    have := List.all_eq_true.mp hs z hz
    rw [Nat.eq_of_beq_eq_true hb, h] at this
    cases this
/-- behind a call that writes less -/
theorem kG_call {l la lq l1 la1 lq1 : List Nat} {i0 : Nat → Int32} {a0 : Nat → List Int32} {q0 : Nat → List Int64} {i i1 : Nat → Int32} {a a1 : Nat → List Int32} {q q1 : Nat → List Int64} (h : kG l la lq i0 a0 q0 i a q) (h1 : kG l1 la1 lq1 i a q i1 a1 q1) (s : l1.all (kM l) = true) (sa : la1.all (kM la) = true) (sq : lq1.all (kM lq) = true) : kG l la lq i0 a0 q0 i1 a1 q1 :=
  ⟨h1.1, fun k hk => (h1.2.1 k (kM_sub s hk)).trans (h.2.1 k hk), fun p hp => (h1.2.2.1 p (kM_sub sa hp)).trans (h.2.2.1 p hp), fun p hp => (h1.2.2.2 p (kM_sub sq hp)).trans (h.2.2.2 p hp)⟩
/-- what a method that writes leaves -/
def kV (l la lq : List Nat) (i : Nat → Int32) (a : Nat → List Int32) (q : Nat → List Int64) (r : Nat → Nat) (Q : Option Value → (Nat → Int32) → (Nat → List Int32) → (Nat → List Int64) → Prop) (rv : Option Value) (h1 : mi_H) : Prop := ∃ i1 a1 q1, h1 = ks i1 a1 q1 r ∧ kG l la lq i a q i1 a1 q1 ∧ Q rv i1 a1 q1
