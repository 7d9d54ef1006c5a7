theorem mi_baro {N : mi_N} {pc : Nat} {r : List Value} {cn : Nat × Nat} {h : mi_H} {j : Int32} {a : Nat} {l : List Int32} (hlo : Nat.blt a mi_RO = false) (ha : N.2.1 (a - mi_RO) = some (.byte, l)) (h0 : mi_off j l.length = false) : mi_hBald N pc (.int j :: .ref a :: r) cn h = some (pc + 1, .int (l.getD j.toNatClampNeg 0) :: r, cn, h) := by
  unfold mi_hBald
  dsimp only
  rw [hlo]
  dsimp only
  rw [ha]
  dsimp only
  rw [h0]
section KX
variable {d : Nat} {q : mi_M × List (Nat × mi_I)} {P : Option Value → mi_H → Prop} {n : Nat} {c : Int}
theorem ko_baro2 (hq : q ∈ mi_prog) {pc : Nat} {ls : mi_L} {r : List Value} {cn : Nat × Nat} {h : mi_H} {j : Int32} {a : Nat} {l : List Int32} {ax : mi_X} (hf : mi_find q.2 pc = some (.baload, 1, ax)) (hlo : Nat.blt a mi_RO = false) (ha : mi_N0.2.1 (a - mi_RO) = some (.byte, l)) (hl : l.length = n) (hc : (n : Int) = c) (h0 : 0 ≤ j.toInt) (h1 : j.toInt < c) (k : ko (d + 1) q P (pc + 1, ls, .int (l.getD j.toNatClampNeg 0) :: r, cn, h)) : ko (d + 1) q P (pc, ls, .int j :: .ref a :: r, cn, h) := by
  have e := mi_baro (N := mi_N0) (pc := pc) (r := r) (cn := cn) (h := h) (j := j) (a := a) (l := l) hlo ha (mi_offok h0 (by rw [hl, hc]; exact h1))
  exact ko_heap hq hf rfl e k
end KX
theorem kj_len {x : Int} {l n : Nat} {c : Int} (hl : l = n) (hc : (n : Int) = c) (h : x < c) (h1 : 1 ≤ n) : x.toNat < l := by omega
theorem kj_tn {a b : Int} (h : a = b + 1) (h0 : 0 ≤ b) : a.toNat = b.toNat + 1 := by omega
theorem kWk_cast {L L1 : List Int32} {f i t : Int} (h : kWk L f i t) (e : L1 = L) : kWk L1 f i t := by subst e; exact h
theorem kSeg_cast {L L1 : List Int32} {f t : Int} (h : kSeg L f t) (e : L1 = L) : kSeg L1 f t := by subst e; exact h
theorem kCode_l1 {i : Nat → Int32} {a : Nat → List Int32} (h : kCode i a) {x : Int32} (h0 : 0 ≤ x.toInt) (h1 : x.toInt < (i 7432).toInt) (h2 : ((a 120).getD x.toNatClampNeg 0).toInt < ((a 121).getD x.toNatClampNeg 0).toInt) : kSeg (a 123) ((a 120).getD x.toNatClampNeg 0).toInt ((a 121).getD x.toNatClampNeg 0).toInt := by
  have t := Int32.toNat_toInt x
  exact (h x.toNatClampNeg (by omega)).1 h2
theorem kCode_l2 {i : Nat → Int32} {a : Nat → List Int32} (h : kCode i a) {x : Int32} (h0 : 0 ≤ x.toInt) (h1 : x.toInt < (i 7432).toInt) : kSeg (a 123) ((a 121).getD x.toNatClampNeg 0).toInt ((a 122).getD x.toNatClampNeg 0).toInt := by
  have t := Int32.toNat_toInt x
  exact (h x.toNatClampNeg (by omega)).2
theorem kWk_begin {L L1 : List Int32} {f t i : Int} {z : Int32} (h : kSeg L f t) (e : L1 = L) (hi : i = f) (hz : z.toInt = 0) : kWk L1 f i z.toInt := by
  subst e
  subst hi
  rw [hz]
  exact kWk_start h
/-! the reference's changes -/
theorem kChL_cast {l l1 : List Int32} (h : kChL l) (e : l1 = l) : kChL l1 := by subst e; exact h
theorem kChL_u {l : List Int32} (h : kChL l) {d y z : Int32} (h0 : 0 ≤ d.toInt) (hy : y.toInt = 4 * d.toInt + 1) (hz : z.toInt = 4 * d.toInt + 2) : (l.getD y.toNatClampNeg 0).toInt = 4 → 1 ≤ (l.getD z.toNatClampNeg 0).toInt ∧ (l.getD z.toNatClampNeg 0).toInt ≤ 5 := by
  have e1 := Int32.toNat_toInt y
  have e2 := Int32.toNat_toInt z
  have a := h d.toInt.toNat
  rw [(by omega : 4 * d.toInt.toNat + 1 = y.toNatClampNeg), (by omega : 4 * d.toInt.toNat + 2 = z.toNatClampNeg)] at a
  exact fun e => (a e).1
theorem kChL_r {l : List Int32} (h : kChL l) {d y z : Int32} (h0 : 0 ≤ d.toInt) (hy : y.toInt = 4 * d.toInt + 1) (hz : z.toInt = 4 * d.toInt + 3) : (l.getD y.toNatClampNeg 0).toInt = 4 → 1 ≤ (l.getD z.toNatClampNeg 0).toInt ∧ (l.getD z.toNatClampNeg 0).toInt ≤ 5 := by
  have e1 := Int32.toNat_toInt y
  have e2 := Int32.toNat_toInt z
  have a := h d.toInt.toNat
  rw [(by omega : 4 * d.toInt.toNat + 1 = y.toNatClampNeg), (by omega : 4 * d.toInt.toNat + 3 = z.toNatClampNeg)] at a
  exact fun e => (a e).2
theorem kset_getD {l : List Int32} {j m : Nat} {x : Int32} (h : j < l.length) : (l.set j x).getD m 0 = if m = j then x else l.getD m 0 := by
  by_cases e : m = j
  · subst e; rw [if_pos rfl]; exact kgs_eq h
  · rw [if_neg e, List.getD_eq_getElem?_getD, List.getElem?_set_ne (fun z => e z.symm), ← List.getD_eq_getElem?_getD]
theorem kChL_set4 {l l1 l2 l3 l4 : List Int32} (h : kChL l) (hl : l.length = 160) {d j0 j1 j2 j3 n w v1 v2 : Int32} (h0 : 0 ≤ d.toInt) (h1 : d.toInt ≤ 39) (e0 : j0.toInt = 4 * d.toInt) (e1 : j1.toInt = 4 * d.toInt + 1) (e2 : j2.toInt = 4 * d.toInt + 2) (e3 : j3.toInt = 4 * d.toInt + 3) (s1 : l1 = l.set j0.toNatClampNeg n) (s2 : l2 = l1.set j1.toNatClampNeg w) (s3 : l3 = l2.set j2.toNatClampNeg v1) (s4 : l4 = l3.set j3.toNatClampNeg v2) (hv : w.toInt = 4 → (1 ≤ v1.toInt ∧ v1.toInt ≤ 5) ∧ (1 ≤ v2.toInt ∧ v2.toInt ≤ 5)) : kChL l4 := by
  have t0 := Int32.toNat_toInt j0
  have t1 := Int32.toNat_toInt j1
  have t2 := Int32.toNat_toInt j2
  have t3 := Int32.toNat_toInt j3
  subst s1
  subst s2
  subst s3
  subst s4
  intro k
  have L1 : (l.set j0.toNatClampNeg n).length = 160 := by rw [List.length_set, hl]
  have L2 : ((l.set j0.toNatClampNeg n).set j1.toNatClampNeg w).length = 160 := by rw [List.length_set, L1]
  have L3 : (((l.set j0.toNatClampNeg n).set j1.toNatClampNeg w).set j2.toNatClampNeg v1).length = 160 := by rw [List.length_set, L2]
  rw [kset_getD (by omega), kset_getD (by omega), kset_getD (by omega), kset_getD (by omega), kset_getD (by omega), kset_getD (by omega), kset_getD (by omega), kset_getD (by omega), kset_getD (by omega), kset_getD (by omega), kset_getD (by omega), kset_getD (by omega)]
  by_cases e : (k : Int) = d.toInt
  · rw [if_neg (by omega), if_neg (by omega), if_pos (by omega), if_neg (by omega), if_pos (by omega), if_pos (by omega)]
    exact hv
  · rw [if_neg (by omega), if_neg (by omega), if_neg (by omega), if_neg (by omega), if_neg (by omega), if_neg (by omega), if_neg (by omega), if_neg (by omega), if_neg (by omega), if_neg (by omega), if_neg (by omega), if_neg (by omega)]
    exact h k
/-- on the way of moving all by four -/
def kShf (l0 l : List Int32) (n : Nat) : Prop := (∀ j : Nat, j < n → l.getD j 0 = l0.getD (j + 4) 0) ∧ (∀ j : Nat, n ≤ j → l.getD j 0 = l0.getD j 0)
theorem kShf_start {l0 l : List Int32} (e : l = l0) {z : Int32} (hz : z.toInt = 0) : kShf l0 l z.toInt.toNat := by
  subst e
  rw [hz]
  exact ⟨fun j h => absurd h (Nat.not_lt_zero _), fun j _ => rfl⟩
theorem kShf_step {l0 l l1 l2 : List Int32} {x y x1 : Int32} (h : kShf l0 l x.toInt.toNat) (hl : l.length = 160) (h0 : 0 ≤ x.toInt) (h1 : x.toInt < 156) (hy : y.toInt = x.toInt + 4) (hx : x1.toInt = x.toInt + 1) (e : l1 = l.set x.toNatClampNeg (l.getD y.toNatClampNeg 0)) (e2 : l2 = l1) : kShf l0 l2 x1.toInt.toNat := by
  have t := Int32.toNat_toInt x
  have t2 := Int32.toNat_toInt y
  subst e2
  subst e
  refine ⟨fun j hj => ?_, fun j hj => ?_⟩
  · rw [kset_getD (by omega)]
    by_cases z : j = x.toNatClampNeg
    · rw [if_pos z, h.2 _ (by omega)]
      congr 1
      omega
    · rw [if_neg z]; exact h.1 j (by omega)
  · rw [kset_getD (by omega), if_neg (by omega)]
    exact h.2 j (by omega)
theorem kShf_end {l0 l : List Int32} {x : Int32} (h : kShf l0 l x.toInt.toNat) (hx : x.toInt = 156) (hl : l.length = 160) (hc : kChL l0) : kChL l := by
  intro k
  have hb : ∀ j : Nat, 160 ≤ j → l.getD j 0 = 0 := fun j hj => by
    rw [List.getD_eq_getElem?_getD, List.getElem?_eq_none (by omega)]
    rfl
  by_cases e : k < 39
  · rw [h.1 _ (by omega), h.1 _ (by omega), h.1 _ (by omega), show 4 * k + 1 + 4 = 4 * (k + 1) + 1 by omega, show 4 * k + 2 + 4 = 4 * (k + 1) + 2 by omega, show 4 * k + 3 + 4 = 4 * (k + 1) + 3 by omega]
    exact hc (k + 1)
  · rw [h.2 _ (by omega), h.2 _ (by omega), h.2 _ (by omega)]
    exact hc k
theorem kE_cn {i : Nat → Int32} {a : Nat → List Int32} {q : Nat → List Int64} (h : kI i a q) {d y : Int32} (h0 : 0 ≤ d.toInt) (hy : y.toInt = 4 * d.toInt) : 0 ≤ ((a 133).getD y.toNatClampNeg 0).toInt ∧ ((a 133).getD y.toNatClampNeg 0).toInt ≤ 7 := (kE_ccond h (by omega)).1 (by omega)
theorem kE_cw {i : Nat → Int32} {a : Nat → List Int32} {q : Nat → List Int64} (h : kI i a q) {d y : Int32} (h0 : 0 ≤ d.toInt) (hy : y.toInt = 4 * d.toInt + 1) : 0 ≤ ((a 133).getD y.toNatClampNeg 0).toInt ∧ ((a 133).getD y.toNatClampNeg 0).toInt ≤ 6 := (kE_ccond h (by omega)).2 (by omega)
/-! lines of a law that is being read -/
def kNw (n c : Nat) (A S E L : List Int32) : Prop := ∀ j : Nat, j < n → ((A.getD j 0).toInt < (S.getD j 0).toInt → kSeg L (A.getD j 0).toInt (S.getD j 0).toInt) ∧ kSeg L (S.getD j 0).toInt (E.getD j 0).toInt ∧ (S.getD j 0).toInt ≤ (c : Int) ∧ (E.getD j 0).toInt ≤ (c : Int)
theorem kNw_zero {A S E L : List Int32} {c : Nat} : kNw 0 c A S E L := fun j h => absurd h (Nat.not_lt_zero _)
theorem kNw_cast {n n1 c c1 : Nat} {A S E L A1 S1 E1 L1 : List Int32} (h : kNw n c A S E L) (hn : n1 = n) (hc : c1 = c) (eA : A1 = A) (eS : S1 = S) (eE : E1 = E) (eL : L1 = L) : kNw n1 c1 A1 S1 E1 L1 := by
  subst hn
  subst hc
  subst eA
  subst eS
  subst eE
  subst eL
  exact h
theorem kNw_add {n c c1 n1 : Nat} {A S E L A1 S1 E1 L1 : List Int32} (h : kNw n c A S E L) (hn : n1 = n + 1) (hc : c ≤ c1) (hL : ∀ j : Nat, j < c → L1.getD j 0 = L.getD j 0) (hA : ∀ j : Nat, j ≠ n → A1.getD j 0 = A.getD j 0) (hS : ∀ j : Nat, j ≠ n → S1.getD j 0 = S.getD j 0) (hE : ∀ j : Nat, j ≠ n → E1.getD j 0 = E.getD j 0) (h1 : (A1.getD n 0).toInt < (S1.getD n 0).toInt → kSeg L1 (A1.getD n 0).toInt (S1.getD n 0).toInt) (h2 : kSeg L1 (S1.getD n 0).toInt (E1.getD n 0).toInt) (h3 : (S1.getD n 0).toInt ≤ (c1 : Int)) (h4 : (E1.getD n 0).toInt ≤ (c1 : Int)) : kNw n1 c1 A1 S1 E1 L1 := by
  subst hn
  intro j hj
  by_cases e : j = n
  · subst e; exact ⟨h1, h2, h3, h4⟩
  · obtain ⟨a, b, c2, d⟩ := h j (by omega)
    rw [hA j e, hS j e, hE j e]
    exact ⟨fun z => kSeg_congr (a z) (fun k hk => hL k (by omega)), kSeg_congr b (fun k hk => hL k (by omega)), by omega, by omega⟩
theorem kNw_one {x : Int32} {c0 c1 n1 : Nat} {A S E L A1 S1 E1 L1 : List Int32} {xa xs xe : Int32} (h : kNw x.toInt.toNat c0 A S E L) (hr : kRun L L1 c0 c1 1) (hn : n1 = x.toInt.toNat + 1) (h0 : 0 ≤ x.toInt) (hx : x.toInt < 61) (lA : A.length = 61) (lS : S.length = 61) (lE : E.length = 61) (eA : A1 = A.set x.toNatClampNeg xa) (eS : S1 = S.set x.toNatClampNeg xs) (eE : E1 = E.set x.toNatClampNeg xe) (va : xa.toInt = (c0 : Int)) (vs : xs.toInt = (c0 : Int)) (ve : xe.toInt = (c1 : Int)) (hc : c1 ≤ 200) : kNw n1 c1 A1 S1 E1 L1 := by
  have t := Int32.toNat_toInt x
  subst eA
  subst eS
  subst eE
  refine kNw_add h hn hr.1 hr.2.1 (fun j hj => ?_) (fun j hj => ?_) (fun j hj => ?_) ?_ ?_ ?_ ?_
  · rw [kset_getD (by omega), if_neg (by omega)]
  · rw [kset_getD (by omega), if_neg (by omega)]
  · rw [kset_getD (by omega), if_neg (by omega)]
  all_goals rw [kset_getD (by omega), if_pos (by omega)]
  · rw [kset_getD (by omega), if_pos (by omega)]
    exact fun z => absurd z (by omega)
  · rw [kset_getD (by omega), if_pos (by omega)]
    exact kSeg_of (L0 := L) (by rw [vs, ve]; exact hr) (by omega) (by have := hr.1; omega) (by omega)
  · have := hr.1; omega
  · omega
theorem kNw_two {x : Int32} {c0 c1 c2 n1 : Nat} {A S E L A1 S1 E1 L1 L2 : List Int32} {xa x0 xs xe : Int32} (h : kNw x.toInt.toNat c0 A S E L) (hr : kRun L L1 c0 c1 1) (hr2 : kRun L1 L2 c1 c2 1) (hn : n1 = x.toInt.toNat + 1) (h0 : 0 ≤ x.toInt) (hx : x.toInt < 61) (lA : A.length = 61) (lS : S.length = 61) (lE : E.length = 61) (eA : A1 = A.set x.toNatClampNeg xa) (eS : S1 = (S.set x.toNatClampNeg x0).set x.toNatClampNeg xs) (eE : E1 = E.set x.toNatClampNeg xe) (va : xa.toInt = (c0 : Int)) (vs : xs.toInt = (c1 : Int)) (ve : xe.toInt = (c2 : Int)) (hc : c2 ≤ 200) : kNw n1 c2 A1 S1 E1 L2 := by
  have t := Int32.toNat_toInt x
  have g1 := hr.1
  have g2 := hr2.1
  subst eA
  subst eS
  subst eE
  have lS1 : (S.set x.toNatClampNeg x0).length = 61 := by rw [List.length_set, lS]
  refine kNw_add h hn (by omega) (fun j hj => (hr2.2.1 j (by omega)).trans (hr.2.1 j hj)) (fun j hj => ?_) (fun j hj => ?_) (fun j hj => ?_) ?_ ?_ ?_ ?_
  · rw [kset_getD (by omega), if_neg (by omega)]
  · rw [kset_getD (by omega), if_neg (by omega), kset_getD (by omega), if_neg (by omega)]
  · rw [kset_getD (by omega), if_neg (by omega)]
  all_goals rw [kset_getD (by omega), if_pos (by omega)]
  · rw [kset_getD (by omega), if_pos (by omega)]
    exact fun _ => kSeg_congr (kSeg_of (L0 := L) (L := L1) (by rw [va, vs]; exact hr) (by omega) (by omega) (by omega)) (fun j hj => hr2.2.1 j (by omega))
  · rw [kset_getD (by omega), if_pos (by omega)]
    exact kSeg_of (L0 := L1) (by rw [vs, ve]; exact hr2) (by omega) (by omega) (by omega)
  · omega
  · omega
/-- copied so far -/
def kCp (L0 L : List Int32) (n : Nat) : Prop := ∀ j : Nat, j < n → L.getD j 0 = L0.getD j 0
theorem kCp_zero {L0 L : List Int32} {z : Int32} (hz : z.toInt = 0) : kCp L0 L z.toInt.toNat := by
  rw [hz]
  exact fun j h => absurd h (Nat.not_lt_zero _)
theorem kCp_step {L0 L L1 : List Int32} {x x1 v : Int32} {n : Nat} (h : kCp L0 L x.toInt.toNat) (hl : L.length = n) (h0 : 0 ≤ x.toInt) (hx : x.toInt < (n : Int)) (e1 : x1.toInt = x.toInt + 1) (e : L1 = L.set x.toNatClampNeg v) (hv : v = L0.getD x.toNatClampNeg 0) : kCp L0 L1 x1.toInt.toNat := by
  have t := Int32.toNat_toInt x
  subst e
  intro j hj
  rw [kset_getD (by omega)]
  by_cases z : j = x.toNatClampNeg
  · rw [if_pos z, z]; exact hv
  · rw [if_neg z]; exact h j (by omega)
theorem kCode_made {i : Nat → Int32} {a : Nat → List Int32} {n c : Nat} {A S E L : List Int32} (h : kNw n c A S E L) (hA : kCp A (a 120) n) (hS : kCp S (a 121) n) (hE : kCp E (a 122) n) (hL : kCp L (a 123) c) (hn : (i 7432).toInt ≤ (n : Int)) : kCode i a := by
  intro j hj
  have hjn : j < n := by omega
  obtain ⟨x, y, z, w⟩ := h j hjn
  rw [hA j hjn, hS j hjn, hE j hjn]
  exact ⟨fun q => kSeg_congr (x q) (fun k hk => hL k (by omega)), kSeg_congr y (fun k hk => hL k (by omega))⟩
theorem kj_vn {v w : Int} (h : v = w) (h0 : 0 ≤ w) : v = (w.toNat : Int) := by omega
theorem kj_tn2 {w : Int} (h : w ≤ 200) : w.toNat ≤ 200 := by omega
theorem kset_at {l l1 o : List Int32} {j x v : Int32} (e : l1 = l.set j.toNatClampNeg v) (eo : l = o) (hj : j.toInt = x.toInt) : l1 = o.set x.toNatClampNeg v := by
  subst eo
  rw [e, Int32.toInt_inj.mp hj]
theorem kset_at2 {l l1 l2 o o1 : List Int32} {j j2 x v v2 : Int32} (e2 : l2 = l1.set j2.toNatClampNeg v2) (eo2 : l1 = o1) (hj2 : j2.toInt = x.toInt) (e : o1 = l.set j.toNatClampNeg v) (eo : l = o) (hj : j.toInt = x.toInt) : l2 = (o.set x.toNatClampNeg v).set x.toNatClampNeg v2 := by
  subst eo
  rw [e2, eo2, e, Int32.toInt_inj.mp hj2, Int32.toInt_inj.mp hj]
theorem kset_get {l l1 l2 : List Int32} {j y v : Int32} (e2 : l2 = l1) (e : l1 = l.set j.toNatClampNeg v) (hy : y.toInt = j.toInt) (hl : l.length = 61) (h0 : 0 ≤ j.toInt) (h1 : j.toInt < 61) : (l2.getD y.toNatClampNeg 0).toInt = v.toInt := by
  have t := Int32.toNat_toInt j
  rw [e2, e, Int32.toInt_inj.mp hy, kgs_eq (by omega)]
theorem kRun_from {L L0 L1 : List Int32} {c c0 c1 k : Nat} (h : kRun L L1 c c1 k) (e : L = L0) (ec : c = c0) : kRun L0 L1 c0 c1 k := by subst e; subst ec; exact h
theorem kNw_z {z : Int32} {c : Nat} {A S E L : List Int32} (hz : z.toInt = 0) : kNw z.toInt.toNat c A S E L := by rw [hz]; exact kNw_zero
theorem kCp_le {L0 L L1 : List Int32} {n m : Nat} (h : kCp L0 L n) (e : L1 = L) (hm : m ≤ n) : kCp L0 L1 m := by subst e; exact fun j hj => h j (by omega)
theorem kj_nle {a b : Int} (h : a ≤ b) : a.toNat ≤ b.toNat := by omega
theorem kj_ile {a b : Int} (h : a = b) (h0 : 0 ≤ b) : a ≤ (b.toNat : Int) := by omega
def kb1 (x : Int32) : Int32 := x - (((x.toUInt32 >>> ((1 : Int32).toUInt32 &&& Int32.toUInt32 31)).toInt32) &&& 1431655765)
def kb2 (x : Int32) : Int32 := (x &&& 858993459) + (((x.toUInt32 >>> ((2 : Int32).toUInt32 &&& Int32.toUInt32 31)).toInt32) &&& 858993459)
def kb3 (x : Int32) : Int32 := (x + ((x.toUInt32 >>> ((4 : Int32).toUInt32 &&& Int32.toUInt32 31)).toInt32)) &&& 252645135
def kb4 (x : Int32) : Int32 := x + ((x.toUInt32 >>> ((8 : Int32).toUInt32 &&& Int32.toUInt32 31)).toInt32)
def kb5 (x : Int32) : Int32 := x + ((x.toUInt32 >>> ((16 : Int32).toUInt32 &&& Int32.toUInt32 31)).toInt32)
def kbc (x : Int32) : Int32 := kb5 (kb4 (kb3 (kb2 (kb1 x)))) &&& 63
theorem kbc_all : ∀ m : Nat, m < 256 → 0 ≤ (kbc (Int32.ofNat m)).toInt ∧ (m ≠ 0 → 1 ≤ (kbc (Int32.ofNat m)).toInt) ∧ ∀ k : Nat, k < 8 → ((Int32.ofNat m >>> (Int32.ofNat k &&& 31)) &&& 1).toInt ≠ 0 → (kbc (Int32.ofNat m &&& (((1 : Int32) <<< (Int32.ofNat k &&& 31)) ^^^ (-1)))).toInt = (kbc (Int32.ofNat m)).toInt - 1 ∧ 0 ≤ (Int32.ofNat m &&& (((1 : Int32) <<< (Int32.ofNat k &&& 31)) ^^^ (-1))).toInt ∧ (Int32.ofNat m &&& (((1 : Int32) <<< (Int32.ofNat k &&& 31)) ^^^ (-1))).toInt ≤ 255 := by decide +kernel
theorem kbc_of {x : Int32} {n : Nat} (h0 : 0 ≤ x.toInt) (h1 : x.toInt < n) : ∃ m : Nat, m < n ∧ x = Int32.ofNat m ∧ x.toInt = (m : Int) := by
  have e : x = Int32.ofNat x.toInt.toNat := by
    apply Int32.toInt_inj.mp
    have := Int32.toInt_lt x
    rw [Int32.toInt_ofNat_of_lt (by omega)]
    omega
  exact ⟨x.toInt.toNat, by omega, e, by omega⟩
theorem kbc_pos {x : Int32} (h0 : 0 ≤ x.toInt) (h1 : x.toInt ≤ 255) (h : x.toInt ≠ 0) : 1 ≤ (kbc x).toInt := by
  obtain ⟨m, hm, e, ei⟩ := kbc_of (n := 256) h0 (by omega)
  subst e
  exact (kbc_all m hm).2.1 (by omega)
theorem kbc_nn {x : Int32} (h0 : 0 ≤ x.toInt) (h1 : x.toInt ≤ 255) : 0 ≤ (kbc x).toInt := by
  obtain ⟨m, hm, e, ei⟩ := kbc_of (n := 256) h0 (by omega)
  subst e
  exact (kbc_all m hm).1
theorem kbc_step {x b : Int32} (h0 : 0 ≤ x.toInt) (h1 : x.toInt ≤ 255) (h2 : 0 ≤ b.toInt) (h3 : b.toInt ≤ 7) (h : ((x >>> (b &&& 31)) &&& 1).toInt ≠ 0) : (kbc (x &&& (((1 : Int32) <<< (b &&& 31)) ^^^ (-1)))).toInt = (kbc x).toInt - 1 ∧ 0 ≤ (x &&& (((1 : Int32) <<< (b &&& 31)) ^^^ (-1))).toInt ∧ (x &&& (((1 : Int32) <<< (b &&& 31)) ^^^ (-1))).toInt ≤ 255 := by
  obtain ⟨m, hm, e, ei⟩ := kbc_of (n := 256) h0 (by omega)
  obtain ⟨k, hk, e2, ei2⟩ := kbc_of (n := 8) h2 (by omega)
  subst e
  subst e2
  exact (kbc_all m hm).2.2 k hk h
