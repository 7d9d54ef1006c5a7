section KX
variable {d : Nat} {q : mi_M × List (Nat × mi_I)} {P : Option Value → mi_H → Prop} {n : Nat} {c : Int}
end KX
theorem kWk_cast {L L1 : List Int32} {f i t : Int} (h : kWk L f i t) (e : L1 = L) : kWk L1 f i t := by subst e; exact h
theorem kSeg_cast {L L1 : List Int32} {f t : Int} (h : kSeg L f t) (e : L1 = L) : kSeg L1 f t := by subst e; exact h
theorem kCode_l1 {i : Nat → Int32} {a : Nat → List Int32} (h : kCode i a) {x : Int32} (h0 : 0 ≤ x.toInt) (h1 : x.toInt < (i 7432).toInt) (h2 : ((a 120).getD x.toNatClampNeg 0).toInt < ((a 121).getD x.toNatClampNeg 0).toInt) : kSeg (a 123) ((a 120).getD x.toNatClampNeg 0).toInt ((a 121).getD x.toNatClampNeg 0).toInt := by
  have t := Int32.toNat_toInt x
  exact (h x.toNatClampNeg (by omega)).1 h2
theorem kCode_l2 {i : Nat → Int32} {a : Nat → List Int32} (h : kCode i a) {x : Int32} (h0 : 0 ≤ x.toInt) (h1 : x.toInt < (i 7432).toInt) : kSeg (a 123) ((a 121).getD x.toNatClampNeg 0).toInt ((a 122).getD x.toNatClampNeg 0).toInt := by
  have t := Int32.toNat_toInt x
  exact (h x.toNatClampNeg (by omega)).2
theorem kWk_begin {L L1 : List Int32} {f t i : Int} {z : Int32} (h : kSeg L f t) (e : L1 = L) (hi : i = f) (hz : z.toInt = 0) : kWk L1 f i z.toInt := by
  subst e
  subst hi
  rw [hz]
  exact kWk_start h
/-! the reference's changes -/
theorem kChL_cast {l l1 : List Int32} (h : kChL l) (e : l1 = l) : kChL l1 := by subst e; exact h
theorem kChL_u {l : List Int32} (h : kChL l) {d y z : Int32} (h0 : 0 ≤ d.toInt) (hy : y.toInt = 4 * d.toInt + 1) (hz : z.toInt = 4 * d.toInt + 2) : (l.getD y.toNatClampNeg 0).toInt = 4 → 1 ≤ (l.getD z.toNatClampNeg 0).toInt ∧ (l.getD z.toNatClampNeg 0).toInt ≤ 5 := by
  have e1 := Int32.toNat_toInt y
  have e2 := Int32.toNat_toInt z
  have a := h d.toInt.toNat
  rw [(by omega : 4 * d.toInt.toNat + 1 = y.toNatClampNeg), (by omega : 4 * d.toInt.toNat + 2 = z.toNatClampNeg)] at a
  exact fun e => (a e).1
theorem kChL_r {l : List Int32} (h : kChL l) {d y z : Int32} (h0 : 0 ≤ d.toInt) (hy : y.toInt = 4 * d.toInt + 1) (hz : z.toInt = 4 * d.toInt + 3) : (l.getD y.toNatClampNeg 0).toInt = 4 → 1 ≤ (l.getD z.toNatClampNeg 0).toInt ∧ (l.getD z.toNatClampNeg 0).toInt ≤ 5 := by
  have e1 := Int32.toNat_toInt y
  have e2 := Int32.toNat_toInt z
  have a := h d.toInt.toNat
  rw [(by omega : 4 * d.toInt.toNat + 1 = y.toNatClampNeg), (by omega : 4 * d.toInt.toNat + 3 = z.toNatClampNeg)] at a
  exact fun e => (a e).2
theorem kset_getD {l : List Int32} {j m : Nat} {x : Int32} (h : j < l.length) : (l.set j x).getD m 0 = if m = j then x else l.getD m 0 := by
  by_cases e : m = j
  · subst e; rw [if_pos rfl]; exact kgs_eq h
  · rw [if_neg e, List.getD_eq_getElem?_getD, List.getElem?_set_ne (fun z => e z.symm), ← List.getD_eq_getElem?_getD]
theorem kChL_set4 {l l1 l2 l3 l4 : List Int32} (h : kChL l) (hl : l.length = 160) {d j0 j1 j2 j3 n w v1 v2 : Int32} (h0 : 0 ≤ d.toInt) (h1 : d.toInt ≤ 39) (e0 : j0.toInt = 4 * d.toInt) (e1 : j1.toInt = 4 * d.toInt + 1) (e2 : j2.toInt = 4 * d.toInt + 2) (e3 : j3.toInt = 4 * d.toInt + 3) (s1 : l1 = l.set j0.toNatClampNeg n) (s2 : l2 = l1.set j1.toNatClampNeg w) (s3 : l3 = l2.set j2.toNatClampNeg v1) (s4 : l4 = l3.set j3.toNatClampNeg v2) (hv : w.toInt = 4 → (1 ≤ v1.toInt ∧ v1.toInt ≤ 5) ∧ (1 ≤ v2.toInt ∧ v2.toInt ≤ 5)) : kChL l4 := by
  have t0 := Int32.toNat_toInt j0
  have t1 := Int32.toNat_toInt j1
  have t2 := Int32.toNat_toInt j2
  have t3 := Int32.toNat_toInt j3
  subst s1
  subst s2
  subst s3
  subst s4
  intro k
  have L1 : (l.set j0.toNatClampNeg n).length = 160 := by rw [List.length_set, hl]
  have L2 : ((l.set j0.toNatClampNeg n).set j1.toNatClampNeg w).length = 160 := by rw [List.length_set, L1]
  have L3 : (((l.set j0.toNatClampNeg n).set j1.toNatClampNeg w).set j2.toNatClampNeg v1).length = 160 := by rw [List.length_set, L2]
  rw [kset_getD (by omega), kset_getD (by omega), kset_getD (by omega), kset_getD (by omega), kset_getD (by omega), kset_getD (by omega), kset_getD (by omega), kset_getD (by omega), kset_getD (by omega), kset_getD (by omega), kset_getD (by omega), kset_getD (by omega)]
  by_cases e : (k : Int) = d.toInt
  · rw [if_neg (by omega), if_neg (by omega), if_pos (by omega), if_neg (by omega), if_pos (by omega), if_pos (by omega)]
    exact hv
  · rw [if_neg (by omega), if_neg (by omega), if_neg (by omega), if_neg (by omega), if_neg (by omega), if_neg (by omega), if_neg (by omega), if_neg (by omega), if_neg (by omega), if_neg (by omega), if_neg (by omega), if_neg (by omega)]
    exact h k
/-- on the way of moving all by four -/
def kShf (l0 l : List Int32) (n : Nat) : Prop := (∀ j : Nat, j < n → l.getD j 0 = l0.getD (j + 4) 0) ∧ (∀ j : Nat, n ≤ j → l.getD j 0 = l0.getD j 0)
theorem kShf_start {l0 l : List Int32} (e : l = l0) {z : Int32} (hz : z.toInt = 0) : kShf l0 l z.toInt.toNat := by
  subst e
  rw [hz]
  exact ⟨fun j h => absurd h (Nat.not_lt_zero _), fun j _ => rfl⟩
theorem kShf_step {l0 l l1 l2 : List Int32} {x y x1 : Int32} (h : kShf l0 l x.toInt.toNat) (hl : l.length = 160) (h0 : 0 ≤ x.toInt) (h1 : x.toInt < 156) (hy : y.toInt = x.toInt + 4) (hx : x1.toInt = x.toInt + 1) (e : l1 = l.set x.toNatClampNeg (l.getD y.toNatClampNeg 0)) (e2 : l2 = l1) : kShf l0 l2 x1.toInt.toNat := by
  have t := Int32.toNat_toInt x
  have t2 := Int32.toNat_toInt y
  subst e2
  subst e
  refine ⟨fun j hj => ?_, fun j hj => ?_⟩
  · rw [kset_getD (by omega)]
    by_cases z : j = x.toNatClampNeg
    · rw [if_pos z, h.2 _ (by omega)]
      congr 1
      omega
    · rw [if_neg z]; exact h.1 j (by omega)
  · rw [kset_getD (by omega), if_neg (by omega)]
    exact h.2 j (by omega)
theorem kShf_end {l0 l : List Int32} {x : Int32} (h : kShf l0 l x.toInt.toNat) (hx : x.toInt = 156) (hl : l.length = 160) (hc : kChL l0) : kChL l := by
  intro k
  have hb : ∀ j : Nat, 160 ≤ j → l.getD j 0 = 0 := fun j hj => by
    rw [List.getD_eq_getElem?_getD, List.getElem?_eq_none (by omega)]
    rfl
  by_cases e : k < 39
  · rw [h.1 _ (by omega), h.1 _ (by omega), h.1 _ (by omega), show 4 * k + 1 + 4 = 4 * (k + 1) + 1 by omega, show 4 * k + 2 + 4 = 4 * (k + 1) + 2 by omega, show 4 * k + 3 + 4 = 4 * (k + 1) + 3 by omega]
    exact hc (k + 1)
  · rw [h.2 _ (by omega), h.2 _ (by omega), h.2 _ (by omega)]
    exact hc k
theorem kE_cn {i : Nat → Int32} {a : Nat → List Int32} {q : Nat → List Int64} (h : kI i a q) {d y : Int32} (h0 : 0 ≤ d.toInt) (hy : y.toInt = 4 * d.toInt) : 0 ≤ ((a 133).getD y.toNatClampNeg 0).toInt ∧ ((a 133).getD y.toNatClampNeg 0).toInt ≤ 7 := (kE_ccond h (by omega)).1 (by omega)
theorem kE_cw {i : Nat → Int32} {a : Nat → List Int32} {q : Nat → List Int64} (h : kI i a q) {d y : Int32} (h0 : 0 ≤ d.toInt) (hy : y.toInt = 4 * d.toInt + 1) : 0 ≤ ((a 133).getD y.toNatClampNeg 0).toInt ∧ ((a 133).getD y.toNatClampNeg 0).toInt ≤ 6 := (kE_ccond h (by omega)).2 (by omega)
/-! lines of a law that is being read -/
/-- copied so far -/
def kCp (L0 L : List Int32) (n : Nat) : Prop := ∀ j : Nat, j < n → L.getD j 0 = L0.getD j 0
theorem kCp_zero {L0 L : List Int32} {z : Int32} (hz : z.toInt = 0) : kCp L0 L z.toInt.toNat := by
  rw [hz]
  exact fun j h => absurd h (Nat.not_lt_zero _)
theorem kCp_step {L0 L L1 : List Int32} {x x1 v : Int32} {n : Nat} (h : kCp L0 L x.toInt.toNat) (hl : L.length = n) (h0 : 0 ≤ x.toInt) (hx : x.toInt < (n : Int)) (e1 : x1.toInt = x.toInt + 1) (e : L1 = L.set x.toNatClampNeg v) (hv : v = L0.getD x.toNatClampNeg 0) : kCp L0 L1 x1.toInt.toNat := by
  have t := Int32.toNat_toInt x
  subst e
  intro j hj
  rw [kset_getD (by omega)]
  by_cases z : j = x.toNatClampNeg
  · rw [if_pos z, z]; exact hv
  · rw [if_neg z]; exact h j (by omega)
theorem kCp_le {L0 L L1 : List Int32} {n m : Nat} (h : kCp L0 L n) (e : L1 = L) (hm : m ≤ n) : kCp L0 L1 m := by subst e; exact fun j hj => h j (by omega)
theorem kj_nle {a b : Int} (h : a ≤ b) : a.toNat ≤ b.toNat := by omega
def kb1 (x : Int32) : Int32 := x - (((x.toUInt32 >>> ((1 : Int32).toUInt32 &&& Int32.toUInt32 31)).toInt32) &&& 1431655765)
def kb2 (x : Int32) : Int32 := (x &&& 858993459) + (((x.toUInt32 >>> ((2 : Int32).toUInt32 &&& Int32.toUInt32 31)).toInt32) &&& 858993459)
def kb3 (x : Int32) : Int32 := (x + ((x.toUInt32 >>> ((4 : Int32).toUInt32 &&& Int32.toUInt32 31)).toInt32)) &&& 252645135
def kb4 (x : Int32) : Int32 := x + ((x.toUInt32 >>> ((8 : Int32).toUInt32 &&& Int32.toUInt32 31)).toInt32)
def kb5 (x : Int32) : Int32 := x + ((x.toUInt32 >>> ((16 : Int32).toUInt32 &&& Int32.toUInt32 31)).toInt32)
def kbc (x : Int32) : Int32 := kb5 (kb4 (kb3 (kb2 (kb1 x)))) &&& 63
theorem kbc_all : ∀ m : Nat, m < 256 → 0 ≤ (kbc (Int32.ofNat m)).toInt ∧ (m ≠ 0 → 1 ≤ (kbc (Int32.ofNat m)).toInt) ∧ ∀ k : Nat, k < 8 → ((Int32.ofNat m >>> (Int32.ofNat k &&& 31)) &&& 1).toInt ≠ 0 → (kbc (Int32.ofNat m &&& (((1 : Int32) <<< (Int32.ofNat k &&& 31)) ^^^ (-1)))).toInt = (kbc (Int32.ofNat m)).toInt - 1 ∧ 0 ≤ (Int32.ofNat m &&& (((1 : Int32) <<< (Int32.ofNat k &&& 31)) ^^^ (-1))).toInt ∧ (Int32.ofNat m &&& (((1 : Int32) <<< (Int32.ofNat k &&& 31)) ^^^ (-1))).toInt ≤ 255 := by decide +kernel
theorem kbc_of {x : Int32} {n : Nat} (h0 : 0 ≤ x.toInt) (h1 : x.toInt < n) : ∃ m : Nat, m < n ∧ x = Int32.ofNat m ∧ x.toInt = (m : Int) := by
  have e : x = Int32.ofNat x.toInt.toNat := by
    apply Int32.toInt_inj.mp
    have := Int32.toInt_lt x
    rw [Int32.toInt_ofNat_of_lt (by omega)]
    omega
  exact ⟨x.toInt.toNat, by omega, e, by omega⟩
theorem kbc_pos {x : Int32} (h0 : 0 ≤ x.toInt) (h1 : x.toInt ≤ 255) (h : x.toInt ≠ 0) : 1 ≤ (kbc x).toInt := by
  obtain ⟨m, hm, e, ei⟩ := kbc_of (n := 256) h0 (by omega)
  subst e
  exact (kbc_all m hm).2.1 (by omega)
theorem kbc_nn {x : Int32} (h0 : 0 ≤ x.toInt) (h1 : x.toInt ≤ 255) : 0 ≤ (kbc x).toInt := by
  obtain ⟨m, hm, e, ei⟩ := kbc_of (n := 256) h0 (by omega)
  subst e
  exact (kbc_all m hm).1
theorem kbc_step {x b : Int32} (h0 : 0 ≤ x.toInt) (h1 : x.toInt ≤ 255) (h2 : 0 ≤ b.toInt) (h3 : b.toInt ≤ 7) (h : ((x >>> (b &&& 31)) &&& 1).toInt ≠ 0) : (kbc (x &&& (((1 : Int32) <<< (b &&& 31)) ^^^ (-1)))).toInt = (kbc x).toInt - 1 ∧ 0 ≤ (x &&& (((1 : Int32) <<< (b &&& 31)) ^^^ (-1))).toInt ∧ (x &&& (((1 : Int32) <<< (b &&& 31)) ^^^ (-1))).toInt ≤ 255 := by
  obtain ⟨m, hm, e, ei⟩ := kbc_of (n := 256) h0 (by omega)
  obtain ⟨k, hk, e2, ei2⟩ := kbc_of (n := 8) h2 (by omega)
  subst e
  subst e2
  exact (kbc_all m hm).2.2 k hk h

