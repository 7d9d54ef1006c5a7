/-! NUMBERS: what callers and loops need of arithmetic, of what is read and of what is written -/
theorem kd_mulc {x y : Int32} (c : Int) (hy : y.toInt = c) (h0 : -2147483648 ≤ x.toInt * c) (h1 : x.toInt * c ≤ 2147483647) : (x * y).toInt = x.toInt * c := by
  rw [Int32.toInt_mul, hy]
  apply Int.bmod_eq_of_le <;> omega
theorem kd_cmul {x y : Int32} (c : Int) (hx : x.toInt = c) (h0 : -2147483648 ≤ c * y.toInt) (h1 : c * y.toInt ≤ 2147483647) : (x * y).toInt = c * y.toInt := by
  rw [Int32.toInt_mul, hx]
  apply Int.bmod_eq_of_le <;> omega
theorem kd_div {x y : Int32} (c : Int) (hy : y.toInt = c) (hc : 1 ≤ c) (hx : 0 ≤ x.toInt) : (x / y).toInt = x.toInt / c := by
  have hb := kd_bd x
  rw [Int32.toInt_div, hy, Int.tdiv_eq_ediv_of_nonneg hx]
  have h1 : 0 ≤ x.toInt / c := Int.ediv_nonneg hx (by omega)
  have h2 : x.toInt / c ≤ x.toInt := Int.ediv_le_self c hx
  apply Int.bmod_eq_of_le <;> omega
theorem kd_rem {x y : Int32} (c : Int) (hy : y.toInt = c) (hc : 1 ≤ c) (hx : 0 ≤ x.toInt) : (x - x / y * y).toInt = x.toInt % c := by
  have hb := kd_bd x
  have hd := kd_div c hy hc hx
  have h3 : x.toInt / c * c ≤ x.toInt := Int.ediv_mul_le _ (by omega)
  have h4 : 0 ≤ x.toInt / c := Int.ediv_nonneg hx (by omega)
  have h5 : 0 ≤ x.toInt / c * c := Int.mul_nonneg h4 (by omega)
  have hm : (x / y * y).toInt = x.toInt / c * c := by
    rw [kd_mulc c hy (by rw [hd]; omega) (by rw [hd]; omega), hd]
  rw [kd_sub (by rw [hm]; omega) (by rw [hm]; omega), hm]
  have := Int.mul_ediv_add_emod x.toInt c
  have h6 : c * (x.toInt / c) = x.toInt / c * c := Int.mul_comm _ _
  omega
theorem kd_remv {x y : Int32} (hy : 1 ≤ y.toInt) (hx : 0 ≤ x.toInt) : 0 ≤ (x - x / y * y).toInt ∧ (x - x / y * y).toInt < y.toInt := by
  rw [kd_rem y.toInt rfl hy hx]
  exact ⟨Int.emod_nonneg _ (by omega), Int.emod_lt_of_pos _ (by omega)⟩
theorem kd_ushr {x y : Int32} (n : Nat) (hn : y.toUInt32 &&& Int32.toUInt32 31 = UInt32.ofNat n) (h1 : 1 ≤ n) (h2 : n < 32) : 0 ≤ ((x.toUInt32 >>> (y.toUInt32 &&& Int32.toUInt32 31)).toInt32).toInt := by
  rw [hn]
  have hlt : (x.toUInt32 >>> UInt32.ofNat n).toNat < 2 ^ 31 := by
    rw [UInt32.toNat_shiftRight, UInt32.toNat_ofNat', Nat.shiftRight_eq_div_pow]
    have e : n % 2 ^ 32 % 32 = n := by omega
    rw [e]
    have hx : x.toUInt32.toNat < 2 ^ 32 := x.toUInt32.toNat_lt
    have hp : 2 ^ 1 ≤ 2 ^ n := Nat.pow_le_pow_right (by decide) h1
    rw [Nat.div_lt_iff_lt_mul (Nat.lt_of_lt_of_le (by decide) hp)]
    calc x.toUInt32.toNat < 2 ^ 32 := hx
      _ = 2 ^ 31 * 2 ^ 1 := by decide
      _ ≤ 2 ^ 31 * 2 ^ n := Nat.mul_le_mul_left _ hp
  generalize x.toUInt32 >>> UInt32.ofNat n = u at hlt
  show (0 : Int) ≤ u.toInt32.toBitVec.toInt
  have e : u.toInt32.toBitVec = u.toBitVec := rfl
  rw [e, BitVec.toInt_eq_toNat_of_lt (by show 2 * u.toNat < 2 ^ 32; omega)]
  omega
theorem kd_max {x y : Int32} : (x.toInt ≤ (bif decide (x < y) then y else x).toInt ∧ y.toInt ≤ (bif decide (x < y) then y else x).toInt) ∧ ((bif decide (x < y) then y else x).toInt = x.toInt ∨ (bif decide (x < y) then y else x).toInt = y.toInt) := by
  cases h : decide (x < y) with
  | true => have := kd_lt h; simp; omega
  | false => have := kd_ltF h; simp; omega
theorem kd_min {x y : Int32} : ((bif decide (y < x) then y else x).toInt ≤ x.toInt ∧ (bif decide (y < x) then y else x).toInt ≤ y.toInt) ∧ ((bif decide (y < x) then y else x).toInt = x.toInt ∨ (bif decide (y < x) then y else x).toInt = y.toInt) := by
  cases h : decide (y < x) with
  | true => have := kd_lt h; simp; omega
  | false => have := kd_ltF h; simp; omega
theorem kd_shl1 {n : Int32} (h0 : 0 ≤ n.toInt) (h1 : n.toInt ≤ 8) : 1 ≤ ((1 : Int32) <<< (n &&& 31)).toInt ∧ ((1 : Int32) <<< (n &&& 31)).toInt ≤ 256 := by
  have e : n = 0 ∨ n = 1 ∨ n = 2 ∨ n = 3 ∨ n = 4 ∨ n = 5 ∨ n = 6 ∨ n = 7 ∨ n = 8 := by
    have z : ∀ m : Int32, n.toInt = m.toInt → n = m := fun m h => Int32.toInt_inj.mp h
    have q0 : (0 : Int32).toInt = 0 := by decide
    have q1 : (1 : Int32).toInt = 1 := by decide
    have q2 : (2 : Int32).toInt = 2 := by decide
    have q3 : (3 : Int32).toInt = 3 := by decide
    have q4 : (4 : Int32).toInt = 4 := by decide
    have q5 : (5 : Int32).toInt = 5 := by decide
    have q6 : (6 : Int32).toInt = 6 := by decide
    have q7 : (7 : Int32).toInt = 7 := by decide
    have q8 : (8 : Int32).toInt = 8 := by decide
    rcases (by omega : n.toInt = 0 ∨ n.toInt = 1 ∨ n.toInt = 2 ∨ n.toInt = 3 ∨ n.toInt = 4 ∨ n.toInt = 5 ∨ n.toInt = 6 ∨ n.toInt = 7 ∨ n.toInt = 8) with h | h | h | h | h | h | h | h | h
    · exact Or.inl (z 0 (by omega))
    · exact Or.inr (Or.inl (z 1 (by omega)))
    · exact Or.inr (Or.inr (Or.inl (z 2 (by omega))))
    · exact Or.inr (Or.inr (Or.inr (Or.inl (z 3 (by omega)))))
    · exact Or.inr (Or.inr (Or.inr (Or.inr (Or.inl (z 4 (by omega))))))
    · exact Or.inr (Or.inr (Or.inr (Or.inr (Or.inr (Or.inl (z 5 (by omega)))))))
    · exact Or.inr (Or.inr (Or.inr (Or.inr (Or.inr (Or.inr (Or.inl (z 6 (by omega))))))))
    · exact Or.inr (Or.inr (Or.inr (Or.inr (Or.inr (Or.inr (Or.inr (Or.inl (z 7 (by omega)))))))))
    · exact Or.inr (Or.inr (Or.inr (Or.inr (Or.inr (Or.inr (Or.inr (Or.inr (z 8 (by omega)))))))))
  rcases e with h | h | h | h | h | h | h | h | h <;> subst h <;> decide
/-! longs -/
theorem kl_i2l {x : Int32} : (x.toInt64).toInt = x.toInt := by simp
theorem kl_add {x y : Int64} (h0 : -9223372036854775808 ≤ x.toInt + y.toInt) (h1 : x.toInt + y.toInt ≤ 9223372036854775807) : (x + y).toInt = x.toInt + y.toInt := by
  rw [Int64.toInt_add]
  apply Int.bmod_eq_of_le <;> omega
theorem kl_cmul {x y : Int64} (c : Int) (hx : x.toInt = c) (h0 : -9223372036854775808 ≤ c * y.toInt) (h1 : c * y.toInt ≤ 9223372036854775807) : (x * y).toInt = c * y.toInt := by
  rw [Int64.toInt_mul, hx]
  apply Int.bmod_eq_of_le <;> omega
theorem kl_l2i {x : Int64} (h0 : -2147483648 ≤ x.toInt) (h1 : x.toInt ≤ 2147483647) : (x.toInt32).toInt = x.toInt := by
  rw [Int64.toInt_toInt32]
  apply Int.bmod_eq_of_le <;> omega
theorem kl_cmp {x y : Int64} : ((lg_cmp x y).toInt < 0 ↔ x.toInt < y.toInt) ∧ (0 < (lg_cmp x y).toInt ↔ y.toInt < x.toInt) := by
  have q0 : (0 : Int32).toInt = 0 := by decide
  have q1 : (1 : Int32).toInt = 1 := by decide
  have qm : (-1 : Int32).toInt = -1 := by decide
  unfold lg_cmp
  split
  next h =>
    have h := Int64.lt_iff_toInt_lt.mp h
    simp only [q1]
    omega
  next h =>
    have h : ¬ y.toInt < x.toInt := fun z => h (Int64.lt_iff_toInt_lt.mpr z)
    split
    next h2 =>
      subst h2
      simp only [q0]
      omega
    next h2 =>
      have : x.toInt ≠ y.toInt := fun e => h2 (Int64.toInt_inj.mp e)
      simp only [qm]
      omega
/-! lists -/
theorem kgs_eq {l : List Int32} {j : Nat} {x : Int32} (h : j < l.length) : (l.set j x).getD j 0 = x := by
  rw [List.getD_eq_getElem?_getD, List.getElem?_set_self h]
  rfl
theorem kgs_ne {l : List Int32} {j k : Int32} {x : Int32} (h0 : 0 ≤ j.toInt) (h1 : 0 ≤ k.toInt) (h : j.toInt ≠ k.toInt) : (l.set k.toNatClampNeg x).getD j.toNatClampNeg 0 = l.getD j.toNatClampNeg 0 := by
  have e : k.toNatClampNeg ≠ j.toNatClampNeg := fun z => by
    have a := Int32.toNat_toInt j
    have b := Int32.toNat_toInt k
    omega
  rw [List.getD_eq_getElem?_getD, List.getElem?_set_ne e, ← List.getD_eq_getElem?_getD]
theorem kEn {p : Nat} (hp : p = 118 ∨ p = 131 ∨ p = 139) (j : Nat) : kE p j = kNow j := by rcases hp with h | h | h <;> subst h <;> rfl
theorem kNow_18 {j : Nat} (h : j = 18) : kNow j = (0, 5) := by subst h; rfl
theorem kNow_who {j : Nat} (h0 : 19 ≤ j) (h1 : j ≤ 24) : kNow j = (0, 7) := by
  rcases (by omega : j = 19 ∨ j = 20 ∨ j = 21 ∨ j = 22 ∨ j = 23 ∨ j = 24) with h | h | h | h | h | h <;> subst h <;> rfl
theorem kNow_else {j : Nat} (h : j ≠ 18) (h1 : ¬ (19 ≤ j ∧ j ≤ 24)) : kNow j = kFull := by
  unfold kNow
  have e1 : Nat.beq j 18 = false := by
    cases e : Nat.beq j 18 with
    | false => rfl
    | true => exact absurd (Nat.eq_of_beq_eq_true e) h
  have e2 : (Nat.ble 19 j && Nat.ble j 24) = false := by
    cases e : (Nat.ble 19 j && Nat.ble j 24) with
    | false => rfl
    | true =>
      obtain ⟨a, b⟩ := Bool.and_eq_true_iff.mp e
      exact absurd ⟨Nat.le_of_ble_eq_true a, Nat.le_of_ble_eq_true b⟩ h1
  rw [e1, e2]
  rfl
theorem kNow_set {j : Nat} {v : Int32} (h18 : j = 18 → 0 ≤ v.toInt ∧ v.toInt ≤ 5) (hw : 19 ≤ j → j ≤ 24 → 0 ≤ v.toInt ∧ v.toInt ≤ 7) : (kNow j).1 ≤ v.toInt ∧ v.toInt ≤ (kNow j).2 := by
  by_cases h : j = 18
  · rw [kNow_18 h]; exact h18 h
  · by_cases h1 : 19 ≤ j ∧ j ≤ 24
    · rw [kNow_who h1.1 h1.2]; exact hw h1.1 h1.2
    · rw [kNow_else h h1]; exact kd_bd v
section KE
variable {i : Nat → Int32} {a : Nat → List Int32} {q : Nat → List Int64}
theorem kE_ncond {p : Nat} (h : kI i a q) (hp : p = 118 ∨ p = 131 ∨ p = 139) {j : Int32} (h0 : 0 ≤ j.toInt) : (j.toInt = 18 → 0 ≤ ((a p).getD j.toNatClampNeg 0).toInt ∧ ((a p).getD j.toNatClampNeg 0).toInt ≤ 5) ∧ (19 ≤ j.toInt → j.toInt ≤ 24 → 0 ≤ ((a p).getD j.toNatClampNeg 0).toInt ∧ ((a p).getD j.toNatClampNeg 0).toInt ≤ 7) := by
  have e := h.2.2.1 p j.toNatClampNeg
  have t := Int32.toNat_toInt j
  rw [kEn hp] at e
  refine ⟨fun z => ?_, fun z1 z2 => ?_⟩
  · rw [kNow_18 (by omega)] at e; exact e
  · rw [kNow_who (by omega) (by omega)] at e; exact e
theorem kE_n18 {p : Nat} (h : kI i a q) (hp : p = 118 ∨ p = 131 ∨ p = 139) : 0 ≤ ((a p).getD (18 : Int32).toNatClampNeg 0).toInt ∧ ((a p).getD (18 : Int32).toNatClampNeg 0).toInt ≤ 5 :=
  (kE_ncond h hp (by decide)).1 (by decide)
theorem kE_nwho {p : Nat} (h : kI i a q) (hp : p = 118 ∨ p = 131 ∨ p = 139) {j : Int32} (h0 : 19 ≤ j.toInt) (h1 : j.toInt ≤ 24) : 0 ≤ ((a p).getD j.toNatClampNeg 0).toInt ∧ ((a p).getD j.toNatClampNeg 0).toInt ≤ 7 :=
  (kE_ncond h hp (by omega)).2 h0 h1
theorem kE_nset {p : Nat} (hp : p = 118 ∨ p = 131 ∨ p = 139) {j v : Int32} (h0 : 0 ≤ j.toInt) (h18 : j.toInt = 18 → 0 ≤ v.toInt ∧ v.toInt ≤ 5) (hw : 19 ≤ j.toInt → j.toInt ≤ 24 → 0 ≤ v.toInt ∧ v.toInt ≤ 7) : (kE p j.toNatClampNeg).1 ≤ v.toInt ∧ v.toInt ≤ (kE p j.toNatClampNeg).2 := by
  rw [kEn hp]
  have t := Int32.toNat_toInt j
  exact kNow_set (fun z => h18 (by omega)) (fun z1 z2 => hw (by omega) (by omega))
theorem kE_tcond (h : kI i a q) {j : Int32} (h0 : 0 ≤ j.toInt) : (j.toInt % 31 = 18 → 0 ≤ ((a 140).getD j.toNatClampNeg 0).toInt ∧ ((a 140).getD j.toNatClampNeg 0).toInt ≤ 5) ∧ (19 ≤ j.toInt % 31 → j.toInt % 31 ≤ 24 → 0 ≤ ((a 140).getD j.toNatClampNeg 0).toInt ∧ ((a 140).getD j.toNatClampNeg 0).toInt ≤ 7) := by
  have e : (kNow (j.toNatClampNeg % 31)).1 ≤ ((a 140).getD j.toNatClampNeg 0).toInt ∧ ((a 140).getD j.toNatClampNeg 0).toInt ≤ (kNow (j.toNatClampNeg % 31)).2 := h.2.2.1 140 j.toNatClampNeg
  have t := Int32.toNat_toInt j
  refine ⟨fun z => ?_, fun z1 z2 => ?_⟩
  · rw [kNow_18 (by omega)] at e; exact e
  · rw [kNow_who (by omega) (by omega)] at e; exact e
theorem kE_tset {j v : Int32} (h0 : 0 ≤ j.toInt) (h18 : j.toInt % 31 = 18 → 0 ≤ v.toInt ∧ v.toInt ≤ 5) (hw : 19 ≤ j.toInt % 31 → j.toInt % 31 ≤ 24 → 0 ≤ v.toInt ∧ v.toInt ≤ 7) : (kE 140 j.toNatClampNeg).1 ≤ v.toInt ∧ v.toInt ≤ (kE 140 j.toNatClampNeg).2 := by
  have t := Int32.toNat_toInt j
  exact kNow_set (j := j.toNatClampNeg % 31) (fun z => h18 (by omega)) (fun z1 z2 => hw (by omega) (by omega))
theorem kE133 (j : Nat) : kE 133 j = (match j % 4 with
  | 0 => (0, 7)
  | 1 => (0, 6)
  | _ => kFull) := rfl
theorem kE_ccond (h : kI i a q) {j : Int32} (h0 : 0 ≤ j.toInt) : (j.toInt % 4 = 0 → 0 ≤ ((a 133).getD j.toNatClampNeg 0).toInt ∧ ((a 133).getD j.toNatClampNeg 0).toInt ≤ 7) ∧ (j.toInt % 4 = 1 → 0 ≤ ((a 133).getD j.toNatClampNeg 0).toInt ∧ ((a 133).getD j.toNatClampNeg 0).toInt ≤ 6) := by
  have e := h.2.2.1 133 j.toNatClampNeg
  have t := Int32.toNat_toInt j
  rw [kE133] at e
  refine ⟨fun z => ?_, fun z => ?_⟩
  · rw [(by omega : j.toNatClampNeg % 4 = 0)] at e; exact e
  · rw [(by omega : j.toNatClampNeg % 4 = 1)] at e; exact e
theorem kE_cset {j v : Int32} (h0 : 0 ≤ j.toInt) (h1 : j.toInt % 4 = 0 → 0 ≤ v.toInt ∧ v.toInt ≤ 7) (h2 : j.toInt % 4 = 1 → 0 ≤ v.toInt ∧ v.toInt ≤ 6) : (kE 133 j.toNatClampNeg).1 ≤ v.toInt ∧ v.toInt ≤ (kE 133 j.toNatClampNeg).2 := by
  have t := Int32.toNat_toInt j
  rw [kE133]
  have hb := kd_bd v
  rcases (by omega : j.toNatClampNeg % 4 = 0 ∨ j.toNatClampNeg % 4 = 1 ∨ j.toNatClampNeg % 4 = 2 ∨ j.toNatClampNeg % 4 = 3) with z | z | z | z <;> rw [z]
  · exact h1 (by omega)
  · exact h2 (by omega)
  · exact hb
  · exact hb
end KE

