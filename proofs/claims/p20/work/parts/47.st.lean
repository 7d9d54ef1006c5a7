/-! THE FIRST CONTENTS -/
def kst_T : List (Nat × Int32) := [(70, 3), (71, 1), (78, 8), (1606, 3), (1607, 1), (1614, 8), (3206, 3), (3207, 1), (3214, 8), (6657, -1), (6785, -1), (6913, -1), (7041, -1), (7169, -1), (7297, -1), (7426, 3), (7427, 1)]
def kst_i (k : Nat) : Int32 := match kst_T.find? (fun z => Nat.beq z.1 k) with
  | some z => z.2
  | none => 0
def kst_a (p : Nat) : List Int32 := List.replicate (kL p) (bif Nat.beq p 136 then -1 else 0)
def kst_q (p : Nat) : List Int64 := List.replicate (kLq p) 0
def kst_r (k : Nat) : Nat := match k with
  | 0 => 10
  | 1 => 59
  | _ => 100
theorem kst_eq : mi_G = ks kst_i kst_a kst_q kst_r := mi_eL_ok mi_eE_ok _ _ (by decide +kernel)
theorem kst_R (k : Nat) : kR k = kFull ∨ ∃ z ∈ kT, z.1 = k ∧ kR k = z.2 := by
  cases e : kT.find? (fun z => Nat.beq z.1 k) with
  | none =>
    refine Or.inl ?_
    unfold kR
    rw [e]
  | some z =>
    refine Or.inr ⟨z, List.mem_of_find?_eq_some e, ?_, ?_⟩
    · have hb := List.find?_some e
      exact Nat.eq_of_beq_eq_true hb
    · unfold kR
      rw [e]
theorem kst_t : kT.all (fun z => decide (z.2.1 ≤ (kst_i z.1).toInt ∧ (kst_i z.1).toInt ≤ z.2.2)) = true := by decide +kernel
theorem kst_E (p j : Nat) : (kE p j).1 ≤ 0 ∧ 0 ≤ (kE p j).2 := by
  have hn : ∀ j, (kNow j).1 ≤ 0 ∧ 0 ≤ (kNow j).2 := fun j => by
    unfold kNow
    cases Nat.beq j 18 with
    | true => exact (by decide : (0 : Int) ≤ 0 ∧ (0 : Int) ≤ 5)
    | false => cases Nat.ble 19 j && Nat.ble j 24 with
      | true => exact (by decide : (0 : Int) ≤ 0 ∧ (0 : Int) ≤ 7)
      | false => exact (by decide : (-2147483648 : Int) ≤ 0 ∧ (0 : Int) ≤ 2147483647)
  unfold kE
  split
  all_goals first | exact hn _ | exact ⟨by decide, by decide⟩ | (split <;> exact ⟨by decide, by decide⟩)
theorem kst_g (n j : Nat) (x : Int32) : (List.replicate n x).getD j 0 = x ∨ (List.replicate n x).getD j 0 = 0 := by
  by_cases h : j < n
  · refine Or.inl ?_
    rw [List.getD_eq_getElem?_getD, List.getElem?_replicate, if_pos h]
    rfl
  · refine Or.inr ?_
    rw [List.getD_eq_getElem?_getD, List.getElem?_replicate, if_neg h]
    rfl
theorem kst_g0 (n j : Nat) : (List.replicate n (0 : Int32)).getD j 0 = 0 := by
  rcases kst_g n j 0 with h | h <;> exact h
theorem kst_I : kI kst_i kst_a kst_q := by
  refine ⟨fun k => ?_, fun p => List.length_replicate, fun p j => ?_, fun p => List.length_replicate⟩
  · rcases kst_R k with h | ⟨z, hz, ek, e⟩
    · rw [h]; exact kd_bd _
    · rw [e, ← ek]; exact of_decide_eq_true (List.all_eq_true.mp kst_t z hz)
  · have h := kst_E p j
    by_cases e : p = 136
    · subst e
      rcases kst_g (kL 136) j (-1) with z | z
      · rw [show (kst_a 136).getD j 0 = -1 from z]; exact (by decide : (-1 : Int) ≤ (-1 : Int32).toInt ∧ (-1 : Int32).toInt ≤ 59)
      · rw [show (kst_a 136).getD j 0 = 0 from z]; exact h
    · have ep : kst_a p = List.replicate (kL p) 0 := by
        unfold kst_a
        cases eb : Nat.beq p 136 with
        | true => exact absurd (Nat.eq_of_beq_eq_true eb) e
        | false => rfl
      rw [ep, kst_g0]
      exact h
theorem kst_all : kAll kst_i kst_a kst_q kst_r := by
  refine ⟨⟨kst_I, Or.inl ⟨rfl, rfl⟩, Or.inl rfl⟩, ⟨fun j => ?_, fun j hj => ?_, fun j hj => ?_, by decide +kernel⟩, fun t ht => ?_, by decide +kernel, by rfl⟩
  · refine Or.inl ?_
    rcases kst_g (kL 136) j (-1) with z | z
    · rw [show (kst_a 136).getD j 0 = -1 from z]; decide
    · rw [show (kst_a 136).getD j 0 = 0 from z]; decide
  · have e : (kst_i 7432).toInt = 0 := by decide +kernel
    omega
  · have e : ((kst_a 133).getD (4 * j + 1) 0).toInt = 0 := by
      rw [show (kst_a 133).getD (4 * j + 1) 0 = 0 from kst_g0 (kL 133) _]
      decide
    omega
  · have h1 : ∀ t : Nat, t < 6 → (kst_i (6656 + 128 * t)).toInt = 0 ∧ ((kst_a 136).getD t 0).toInt = -1 := by decide +kernel
    obtain ⟨h0, h2⟩ := h1 t ht
    exact ⟨fun _ => h2, fun z => absurd (h0.symm.trans z) (by decide), fun z => absurd (h0.symm.trans z) (by decide)⟩
