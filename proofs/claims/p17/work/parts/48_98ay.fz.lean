/-! RING: what the walk says of the class's steps -/
section FZ
variable {m : Nat} {a : Nat → List Int32} {n : Int} {f g : Nat → Nat → Int} {D : Nat → Nat → Int} {E : Nat → Nat → Bool} {Z : List Int32} {x y k k1 c v w l : Int32} {A B : Nat}
theorem th_fr {i : Nat → Int32} {r : Nat → Nat} {S : gS} (h : kThm i a r S) (hm : m < 8) (y0 : 0 ≤ y.toInt) (y8 : y.toInt < 8) : (a (65 + m)).getD y.toNatClampNeg 0 = S.2.2.2.2.2.getD (8 * m + y.toInt.toNat) 0 := by
  obtain ⟨_, _, _, hF, _⟩ := h
  have ty := Int32.toNat_toInt y
  have e : (cRow 50 a m).getD y.toNatClampNeg 0 = S.2.2.2.2.2.getD (8 * m + y.toNatClampNeg) 0 := hF m y.toNatClampNeg hm (kj_ix8 y0 y8)
  rw [cRow_lt hm] at e
  rw [show y.toInt.toNat = y.toNatClampNeg by omega]
  exact e
theorem kj_f1 (e : w = v) (h : 0 < w.toInt) : 0 < v.toInt := by
  subst e
  exact h
theorem kj_f0 (e : w = v) (h : w.toInt ≤ 0) : ¬ (0 < v.toInt) := by
  subst e
  omega
theorem wIn_1 (h : v.toInt = 1) (y0 : 0 ≤ y.toInt) (hy : ¬ (y.toInt = (m : Int))) (hf : 0 < (Z.getD (8 * m + y.toInt.toNat) 0).toInt) : v.toInt = wIn 1000 (eF Z) m y.toInt.toNat := by
  unfold wIn
  rw [if_pos (show eF Z m y.toInt.toNat = true from decide_eq_true ⟨fun q => hy (by omega), hf⟩), h]
theorem wIn_s (h : v.toInt = 1000) (y0 : 0 ≤ y.toInt) (hy : y.toInt = (m : Int)) : v.toInt = wIn 1000 (eF Z) m y.toInt.toNat := by
  unfold wIn
  have t : ¬ (eF Z m y.toInt.toNat = true) := fun q => (of_decide_eq_true (show decide (m ≠ y.toInt.toNat ∧ 0 < (Z.getD (8 * m + y.toInt.toNat) 0).toInt) = true from q)).1 (by omega)
  rw [if_neg t, h]
theorem wIn_n (h : v.toInt = 1000) (_ : 0 ≤ y.toInt) (hf : ¬ (0 < (Z.getD (8 * m + y.toInt.toNat) 0).toInt)) : v.toInt = wIn 1000 (eF Z) m y.toInt.toNat := by
  unfold wIn
  have t : ¬ (eF Z m y.toInt.toNat = true) := fun q => hf (of_decide_eq_true (show decide (m ≠ y.toInt.toNat ∧ 0 < (Z.getD (8 * m + y.toInt.toNat) 0).toInt) = true from q)).2
  rw [if_neg t, h]
theorem wAll_kk {F : Int} (hF : 30 ≤ F) {j : Nat} (hj : j ≤ 8) : 1 ≤ wAll F E j A B := by
  rcases wI_rng (wI_all (E := E) hF j hj) A B with q | q <;> omega
theorem wG_x (h : kWz 81 a (8 * x.toInt + y.toInt) f g) (hm : m < 8) (hx : x.toInt = (m : Int)) (y0 : 0 ≤ y.toInt) (y8 : y.toInt < 8) : ((a (81 + m)).getD y.toNatClampNeg 0).toInt = g m y.toInt.toNat := by
  have ty := Int32.toNat_toInt y
  rw [show y.toNatClampNeg = y.toInt.toNat by omega]
  exact kWz_x h hm (by omega) (by omega)
theorem wG_a (h : kWz 81 a n (wAll 1000 E (k.toInt.toNat + 1)) (wAll 1000 E k.toInt.toNat)) (hm : m < 8) (k0 : 0 ≤ k.toInt) (k8 : k.toInt < 8) : ((a (81 + m)).getD k.toNatClampNeg 0).toInt = wAll 1000 E k.toInt.toNat m k.toInt.toNat := by
  have tk := Int32.toNat_toInt k
  rw [show k.toNatClampNeg = k.toInt.toNat by omega]
  exact kWz_k h hm (by omega) (wSt_k (wAll_kk (by decide) (by omega)) m)
theorem wG_b (h : kWz 81 a n (wAll 1000 E (k.toInt.toNat + 1)) (wAll 1000 E k.toInt.toNat)) (hk : k.toInt = (m : Int)) (k8 : k.toInt < 8) (y0 : 0 ≤ y.toInt) (y8 : y.toInt < 8) : ((a (81 + m)).getD y.toNatClampNeg 0).toInt = wAll 1000 E k.toInt.toNat k.toInt.toNat y.toInt.toNat := by
  have ty := Int32.toNat_toInt y
  rw [show y.toNatClampNeg = y.toInt.toNat by omega, show m = k.toInt.toNat by omega]
  exact kWz_k h (by omega) (by omega) (wSt_kb (wAll_kk (by decide) (by omega)) y.toInt.toNat)
theorem wG_rng (e : v.toInt = wAll 1000 E k.toInt.toNat A B) (k8 : k.toInt < 8) : 1 ≤ v.toInt ∧ v.toInt ≤ 1000 := by
  rcases wI_rng (wI_all (F := 1000) (E := E) (by decide) k.toInt.toNat (by omega)) A B with q | q <;> omega
theorem wNx (h : kWz 81 a n (wAll 1000 E (k.toInt.toNat + 1)) (wAll 1000 E k.toInt.toNat)) (hn : 64 ≤ n) (k0 : 0 ≤ k.toInt) (h1 : k1.toInt = k.toInt + 1) : kWz 81 a 0 (wAll 1000 E (k1.toInt.toNat + 1)) (wAll 1000 E k1.toInt.toNat) := by
  rw [show k1.toInt.toNat = k.toInt.toNat + 1 by omega]
  exact kWz_nx h hn rfl
theorem wG_d (h : kWz 81 a 0 (wAll 1000 E (k.toInt.toNat + 1)) (wAll 1000 E k.toInt.toNat)) (hk : k.toInt = 8) (hm : m < 8) (hc : c.toInt = (m : Int)) : ((a (81 + m)).getD c.toNatClampNeg 0).toInt = wAll 1000 E 8 c.toInt.toNat c.toInt.toNat := by
  have tc := Int32.toNat_toInt c
  rw [hk] at h
  rw [show c.toNatClampNeg = m by omega, show c.toInt.toNat = m by omega]
  exact kWz_x h hm hm (by omega)
theorem rLst_0 (h : v.toInt = 1000) (hc : c.toInt = 0) : v.toInt = rLst 1000 D c.toInt.toNat := by
  rw [hc, h]
  rfl
theorem rLst_1 (h : l.toInt = rLst 1000 D c.toInt.toNat) (hc : c.toInt = 8) (hl : l.toInt < 1000) (hv : v.toInt = l.toInt) : v.toInt = if rLst 1000 D 8 < 1000 then rLst 1000 D 8 else -2 := by
  rw [hc] at h
  have h : l.toInt = rLst 1000 D 8 := h
  rw [← h, if_pos hl, hv]
theorem rLst_n (h : l.toInt = rLst 1000 D c.toInt.toNat) (hc : c.toInt = 8) (hl : 1000 ≤ l.toInt) (hv : v.toInt = -2) : v.toInt = if rLst 1000 D 8 < 1000 then rLst 1000 D 8 else -2 := by
  rw [hc] at h
  have h : l.toInt = rLst 1000 D 8 := h
  rw [← h, if_neg (by omega), hv]
end FZ
