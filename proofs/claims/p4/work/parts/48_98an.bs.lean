/-! THE BEST OF MANY ROWS: rows as functions; one comes in once more, is changed for another; the best of some -/
def gAtF (K : gK) (R : Nat → Int32) (S : gS) : Nat → gS
  | 0 => S
  | k + 1 => gIn K (R k) (gAtF K R S k)
def kIs (L : List Int32) (R : Nat → Int32) (n : Int) : Prop := ∀ j : Nat, (j : Int) < n → L.getD j 0 = R j
def rIns (R : Nat → Int32) (x : Int32) (p : Nat) (j : Nat) : Int32 := if j < p then R j else if j = p then x else R (j - 1)
def rSwp (R : Nat → Int32) (p : Nat) (j : Nat) : Int32 := if j = p then R (p + 1) else if j = p + 1 then R p else R j
def rPuw (R : Nat → Int32) (p : Nat) (x : Int32) (j : Nat) : Int32 := if j = p then x else R j
def gN0 (N : List Int32) : gS := (N, 8, 0, 0, 0, List.replicate 64 0)
/-- what x has behind n comings -/
def gPur (K : gK) (N : List Int32) (R : Nat → Int32) (n : Nat) (x : Int32) : Int32 := (gAtF K R (gN0 N) n).1.getD x.toNatClampNeg 0
/-- the most of f 0 .. f (k - 1), above m; which of them, else w -/
def gBst (f : Nat → Int32) (m : Int32) (w : Int) : Nat → Int32 × Int
  | 0 => (m, w)
  | k + 1 => if (gBst f m w k).1.toInt < (f k).toInt then (f k, (k : Int)) else gBst f m w k
section BST
variable {K : gK} {L L1 N : List Int32} {R R1 : Nat → Int32} {S : gS} {x : Int32}
theorem gAtF_row {n : Int} (h : kIs L R n) : ∀ k : Nat, (k : Int) ≤ n → gAt K L S k = gAtF K R S k
  | 0, _ => rfl
  | k + 1, hk => by
    show gIn K (L.getD k 0) (gAt K L S k) = gIn K (R k) (gAtF K R S k)
    rw [h k (by omega), gAtF_row h k (by omega)]
theorem gAtF_eq {n : Nat} (h : ∀ j : Nat, j < n → R j = R1 j) : ∀ k : Nat, k ≤ n → gAtF K R S k = gAtF K R1 S k
  | 0, _ => rfl
  | k + 1, hk => by
    show gIn K (R k) (gAtF K R S k) = gIn K (R1 k) (gAtF K R1 S k)
    rw [h k (by omega), gAtF_eq h k (by omega)]
theorem gPur_of {n : Int32} {v : Int32} (h : v = (gAt K L S n.toInt.toNat).1.getD x.toNatClampNeg 0) (hS : S.1 = N) (h2 : S.2.2.2.2 = (0, List.replicate 64 0)) (hR : kIs L R n.toInt) (h0 : 0 ≤ n.toInt) : v = gPur K N R n.toInt.toNat x := by
  unfold gPur
  rw [h, ← gAtF_row hR n.toInt.toNat (by omega)]
  have e : gEq S (gN0 N) := ⟨hS, h2⟩
  rw [(gAt_eq (K := K) (L := L) e n.toInt.toNat).1.1]
theorem gBst_eq {f g : Nat → Int32} {m : Int32} {w : Int} : ∀ k : Nat, (∀ j : Nat, j < k → f j = g j) → gBst f m w k = gBst g m w k
  | 0, _ => rfl
  | k + 1, h => by
    have e := gBst_eq (m := m) (w := w) k (fun j hj => h j (by omega))
    unfold gBst
    rw [e, h k (by omega)]
theorem gBst_0 {f : Nat → Int32} {m : Int32} {w : Int} {k : Int32} (h : k.toInt = 0) : (m, w) = gBst f m w k.toInt.toNat := by
  rw [h]
  rfl
/-- a better one -/
theorem gBst_up {f : Nat → Int32} {m m0 v : Int32} {w0 : Int} {w1 k k1 : Int32} {w : Int} (h : (m, w) = gBst f m0 w0 k.toInt.toNat) (hv : v = f k.toInt.toNat) (hl : m.toInt < v.toInt) (h0 : 0 ≤ k.toInt) (h1 : k1.toInt = k.toInt + 1) (hw : w1.toInt = k.toInt) : (v, w1.toInt) = gBst f m0 w0 k1.toInt.toNat := by
  rw [show k1.toInt.toNat = k.toInt.toNat + 1 by omega]
  unfold gBst
  rw [← h, ← hv, if_pos hl, hw]
  have e : ((k.toInt.toNat : Nat) : Int) = k.toInt := by omega
  rw [e]
theorem gBst_no {f : Nat → Int32} {m m0 v : Int32} {w0 w : Int} {k k1 : Int32} (h : (m, w) = gBst f m0 w0 k.toInt.toNat) (hv : v = f k.toInt.toNat) (hl : v.toInt ≤ m.toInt) (h0 : 0 ≤ k.toInt) (h1 : k1.toInt = k.toInt + 1) : (m, w) = gBst f m0 w0 k1.toInt.toNat := by
  rw [show k1.toInt.toNat = k.toInt.toNat + 1 by omega]
  unfold gBst
  have q : ¬ (m.toInt < v.toInt) := by omega
  rw [← h, ← hv, if_neg q]
theorem kT2m {m m1 : Int32} {w w1 : Int} {R : Int32 × Int} (h : (m, w) = R) (e : m1 = m) (ew : w1 = w) : (m1, w1) = R := by subst e; subst ew; exact h
theorem gBst_len {f : Nat → Int32} {m : Int32} {w : Int} {k : Int32} {n : Nat} {X : Int32 × Int} (h : X = gBst f m w k.toInt.toNat) (e : k.toInt = (n : Int)) : X = gBst f m w n := by
  rw [h, e]
  rfl
/-- the class puts him in by moving what is behind -/
theorem kIs_ins {n p x p1 l : Int32} {m : Nat} (h : kIs L R n.toInt) (lL : L.length = m) (h0 : 0 ≤ p.toInt) (hp : p.toInt ≤ n.toInt) (hn : n.toInt < (m : Int)) (e1 : p1.toInt = p.toInt + 1) (el : l.toInt = n.toInt - p.toInt) (e : L1 = (mi_cpy L L p.toNatClampNeg p1.toNatClampNeg l.toNatClampNeg).set p.toNatClampNeg x) : kIs L1 (rIns R x p.toInt.toNat) (n.toInt + 1) := by
  have t0 := Int32.toNat_toInt p
  have t1 := Int32.toNat_toInt p1
  have t2 := Int32.toNat_toInt l
  subst e
  intro j hj
  have hc : (mi_cpy L L p.toNatClampNeg p1.toNatClampNeg l.toNatClampNeg).length = L.length := mi_cpy_len (by omega) (by omega)
  rw [kset_gI (by rw [hc]; omega), cpy_g (by omega) (by omega)]
  unfold rIns
  by_cases c : j = p.toNatClampNeg
  · rw [if_pos c, if_neg (by omega), if_pos (by omega)]
  · rw [if_neg c]
    by_cases c2 : p1.toNatClampNeg ≤ j ∧ j < p1.toNatClampNeg + l.toNatClampNeg
    · rw [if_pos c2, if_neg (by omega), if_neg (by omega), show p.toNatClampNeg + (j - p1.toNatClampNeg) = j - 1 by omega]
      exact h (j - 1) (by omega)
    · rw [if_neg c2]
      have c3 : j < p.toInt.toNat := by omega
      rw [if_pos c3]
      exact h j (by omega)
theorem kIs_swp {n : Int} {p p1 : Int32} {m : Nat} (h : kIs L R n) (lL : L.length = m) (h0 : 0 ≤ p.toInt) (e1 : p1.toInt = p.toInt + 1) (hp : p1.toInt < n) (hn : n ≤ (m : Int)) (e : L1 = (L.set p.toNatClampNeg (L.getD p1.toNatClampNeg 0)).set p1.toNatClampNeg (L.getD p.toNatClampNeg 0)) : kIs L1 (rSwp R p.toInt.toNat) n := by
  have t0 := Int32.toNat_toInt p
  have t1 := Int32.toNat_toInt p1
  subst e
  intro j hj
  rw [kset_gI (by rw [List.length_set]; omega), kset_gI (by omega)]
  unfold rSwp
  by_cases c : j = p1.toNatClampNeg
  · rw [if_pos c, if_neg (by omega), if_pos (by omega), show p.toNatClampNeg = p.toInt.toNat by omega]
    exact h _ (by omega)
  · rw [if_neg c]
    by_cases c2 : j = p.toNatClampNeg
    · rw [if_pos c2, if_pos (by omega), show p1.toNatClampNeg = p.toInt.toNat + 1 by omega]
      exact h _ (by omega)
    · rw [if_neg c2, if_neg (by omega), if_neg (by omega)]
      exact h j hj
theorem rSwp_ins (p : Nat) : rSwp (rIns R x p) p = rIns R x (p + 1) := by
  funext j
  unfold rSwp rIns
  by_cases c : j = p
  · subst c
    rw [if_pos rfl, if_neg (by omega), if_neg (by omega), if_pos (by omega), show j + 1 - 1 = j by omega]
  · rw [if_neg c]
    by_cases c2 : j = p + 1
    · subst c2
      rw [if_pos rfl, if_neg (by omega), if_pos rfl, if_neg (by omega), if_pos rfl]
    · rw [if_neg c2]
      by_cases c3 : j < p
      · rw [if_pos c3, if_pos (by omega)]
      · rw [if_neg c3, if_neg c, if_neg (by omega), if_neg c2]
theorem rSwp_2 (p : Nat) : rSwp (rSwp R p) p = R := by
  funext j
  unfold rSwp
  by_cases c : j = p
  · subst c
    rw [if_pos rfl, if_neg (by omega), if_pos rfl]
  · rw [if_neg c]
    by_cases c2 : j = p + 1
    · subst c2
      rw [if_pos rfl, if_pos rfl]
    · rw [if_neg c2, if_neg c, if_neg c2]
theorem kIs_c {n n1 : Int} (h : kIs L R n) (e : L1 = L) (hn : n1 ≤ n) : kIs L1 R n1 := by subst e; exact fun j hj => h j (by omega)
theorem kIs_R {n : Int} (h : kIs L R n) (e : R1 = R) : kIs L R1 n := by subst e; exact h
theorem kIs_self {n : Int} : kIs L (fun j => L.getD j 0) n := fun _ _ => rfl
theorem kIs_put {n : Int} {p v : Int32} {m : Nat} (h : kIs L R n) (lL : L.length = m) (h0 : 0 ≤ p.toInt) (hm : p.toInt < (m : Int)) (e : L1 = L.set p.toNatClampNeg v) : kIs L1 (rPuw R p.toInt.toNat v) n := by
  have t0 := Int32.toNat_toInt p
  subst e
  intro j hj
  rw [kset_gI (by omega)]
  unfold rPuw
  by_cases c : j = p.toNatClampNeg
  · rw [if_pos c, if_pos (by omega)]
  · rw [if_neg c, if_neg (by omega)]
    exact h j hj
theorem rPuw_ins (p : Nat) (y : Int32) : rPuw (rIns R x p) p y = rIns R y p := by
  funext j
  unfold rPuw rIns
  by_cases c : j = p
  · subst c
    rw [if_pos rfl, if_neg (by omega), if_pos rfl]
  · rw [if_neg c]
    by_cases c3 : j < p
    · rw [if_pos c3, if_pos c3]
    · rw [if_neg c3, if_neg c3, if_neg c, if_neg c]
/-- all come from among the buyers -/
def rOkw (R : Nat → Int32) (n : Int) (b : Int) : Prop := ∀ j : Nat, (j : Int) < n → 0 ≤ (R j).toInt ∧ (R j).toInt < b
theorem rOkw_ins {n b : Int} {p : Nat} (h : rOkw R n b) (hx : 0 ≤ x.toInt ∧ x.toInt < b) (hp : (p : Int) ≤ n) : rOkw (rIns R x p) (n + 1) b := by
  intro j hj
  unfold rIns
  by_cases c : j < p
  · rw [if_pos c]; exact h j (by omega)
  · rw [if_neg c]
    by_cases c2 : j = p
    · rw [if_pos c2]; exact hx
    · rw [if_neg c2]; exact h (j - 1) (by omega)
theorem rOkw_swp {n b : Int} {p : Nat} (h : rOkw R n b) (hp : (p : Int) + 1 < n) : rOkw (rSwp R p) n b := by
  intro j hj
  unfold rSwp
  by_cases c : j = p
  · rw [if_pos c]; exact h (p + 1) (by omega)
  · rw [if_neg c]
    by_cases c2 : j = p + 1
    · rw [if_pos c2]; exact h p (by omega)
    · rw [if_neg c2]; exact h j hj
theorem kRow_is {i i1 : Nat → Int32} {a1 : Nat → List Int32} {n : Int} (h : kIs (a1 74) R n) (ho : rOkw R n (i 64).toInt) (e : (i1 3138).toInt = n) (e1 : i1 64 = i 64) : kRow i1 a1 := by
  intro j hj
  rw [h j (by omega), e1]
  exact ho j (by omega)
theorem rOkw_row {i : Nat → Int32} {a : Nat → List Int32} (h : kRow i a) : rOkw (fun j => (a 74).getD j 0) (i 3138).toInt (i 64).toInt := h
theorem rIns_eq {n : Int} {p : Nat} (h : ∀ j : Nat, (j : Int) < n → R j = R1 j) (hp : (p : Int) ≤ n) : ∀ j : Nat, (j : Int) < n + 1 → rIns R x p j = rIns R1 x p j := by
  intro j hj
  unfold rIns
  by_cases c : j < p
  · rw [if_pos c, if_pos c]; exact h j (by omega)
  · rw [if_neg c, if_neg c]
    by_cases c2 : j = p
    · rw [if_pos c2, if_pos c2]
    · rw [if_neg c2, if_neg c2]; exact h (j - 1) (by omega)
theorem rSwp_eq {n : Int} {p : Nat} (h : ∀ j : Nat, (j : Int) < n → R j = R1 j) (hp : (p : Int) + 1 < n) : ∀ j : Nat, (j : Int) < n → rSwp R p j = rSwp R1 p j := by
  intro j hj
  unfold rSwp
  by_cases c : j = p
  · rw [if_pos c, if_pos c]; exact h _ (by omega)
  · rw [if_neg c, if_neg c]
    by_cases c2 : j = p + 1
    · rw [if_pos c2, if_pos c2]; exact h _ (by omega)
    · rw [if_neg c2, if_neg c2]; exact h j hj
theorem gPur_eq {n : Nat} (h : ∀ j : Nat, j < n → R j = R1 j) : gPur K N R n x = gPur K N R1 n x := by
  unfold gPur
  rw [gAtF_eq h n (Nat.le_refl _)]
end BST
theorem kj_natle {k : Int32} {n : Int} (h0 : 0 ≤ k.toInt) (h : k.toInt ≤ n) : ((k.toInt.toNat : Nat) : Int) ≤ n := by omega
theorem kj_natlt {k : Int32} {n : Int} (h0 : 0 ≤ k.toInt) (h : k.toInt + 1 < n) : ((k.toInt.toNat : Nat) : Int) + 1 < n := by omega
theorem kj_np1 {k : Int32} {n : Int} (h : k.toInt = n + 1) (h0 : 0 ≤ n) : k.toInt = (((n + 1).toNat : Nat) : Int) := by omega
theorem kj_np {k : Int32} {n : Int} (h : k.toInt = n) (h0 : 0 ≤ n) : k.toInt = ((n.toNat : Nat) : Int) := by omega
theorem kj_nm1 {k : Int32} {n : Int} (h0 : 0 ≤ k.toInt) (h : n - 1 = k.toInt ∨ (n ≤ 0 ∧ k.toInt = 0)) : k.toInt = (((n - 1).toNat : Nat) : Int) := by omega
theorem rSwp_at {R : Nat → Int32} {x k k1 : Int32} (h0 : 0 ≤ k.toInt) (h1 : k1.toInt = k.toInt + 1) : rIns R x k1.toInt.toNat = rSwp (rIns R x k.toInt.toNat) k.toInt.toNat := by
  rw [rSwp_ins, show k1.toInt.toNat = k.toInt.toNat + 1 by omega]
/-- numbers as ints of 32 bits -/
def kOf : Nat → Int32
  | 0 => 0
  | n + 1 => kOf n + 1
theorem kOf_i : ∀ n : Nat, n ≤ 1000 → (kOf n).toInt = (n : Int)
  | 0, _ => by decide
  | n + 1, h => by
    have ih := kOf_i n (by omega)
    have k1 : (1 : Int32).toInt = 1 := by decide
    show (kOf n + 1).toInt = _
    rw [kd_add (by omega) (by omega), ih, k1]
    omega
theorem kOf_v {k : Int32} (h0 : 0 ≤ k.toInt) (h1 : k.toInt ≤ 1000) : kOf k.toInt.toNat = k := kj_v (by rw [kOf_i _ (by omega)]; omega)
theorem bh_fv {K : gK} {N : List Int32} {R : Nat → Int32} {v k x : Int32} {p n : Nat} (w : v = gPur K N (rIns R k p) n x) (h0 : 0 ≤ k.toInt) (h1 : k.toInt ≤ 1000) : v = (fun z : Nat => gPur K N (rIns R (kOf z) p) n x) k.toInt.toNat := by
  show v = gPur K N (rIns R (kOf k.toInt.toNat) p) n x
  rw [kOf_v h0 h1]
  exact w
def vBst (w v : Int32) (B : Int32 × Int) : Prop := (w.toInt = 0 → v.toInt = B.2) ∧ (w.toInt ≠ 0 → v = B.1)
def lF (L : List Int32) : Nat → Int32 := fun j => L.getD j 0
def fBp (K : gK) (N : List Int32) (x2 x3 v : Int32) (n : Int) (L : List Int32) : Prop := (n = 20 → v = -5) ∧ (n < 20 → vBst x3 v (gBst (fun p => gPur K N (rIns (lF L) x2 p) (n + 1).toNat x2) (-1) 0 (n + 1).toNat))
def fHi (K : gK) (N : List Int32) (b x2 x3 x4 v : Int32) (n : Int) (L : List Int32) : Prop := (n < x2.toInt → v = -1) ∧ (x2.toInt ≤ n → (n = 20 → v = -5) ∧ (n < 20 → vBst x4 v (gBst (fun p => gPur K N (rIns (lF L) (kOf p) x2.toInt.toNat) (n + 1).toNat x3) (-1) 0 b.toInt.toNat)))
def fLt (K : gK) (N : List Int32) (x2 x3 v : Int32) (n : Int) (L : List Int32) : Prop := vBst x3 v (gBst (fun p => gPur K N (rSwp (lF L) p) n.toNat x2) (gPur K N (lF L) n.toNat x2) (-2) (n - 1).toNat)
theorem vBst_same {w v u : Int32} {B C : Int32 × Int} (h : vBst w v B) (g : vBst w u C) (e : B = C) : v = u := by
  subst e
  by_cases c : w.toInt = 0
  · exact kj_v ((h.1 c).trans (g.1 c).symm)
  · rw [h.2 c, g.2 c]
theorem lF_eq {L L1 : List Int32} {n : Int} (hL : ∀ j : Nat, (j : Int) < n → L.getD j 0 = L1.getD j 0) : ∀ j : Nat, (j : Int) < n → lF L j = lF L1 j := hL
theorem fBp_same {K : gK} {N : List Int32} {x2 x3 v u : Int32} {n : Int} {L L1 : List Int32} (h0 : 0 ≤ n) (h20 : n ≤ 20) (hL : ∀ j : Nat, (j : Int) < n → L.getD j 0 = L1.getD j 0) (h : fBp K N x2 x3 v n L) (g : fBp K N x2 x3 u n L1) : v = u := by
  by_cases c : n = 20
  · rw [h.1 c, g.1 c]
  · refine vBst_same (h.2 (by omega)) (g.2 (by omega)) (gBst_eq _ (fun p hp => gPur_eq (fun j hj => rIns_eq (lF_eq hL) (by omega) j (by omega))))
theorem fHi_same {K : gK} {N : List Int32} {b x2 x3 x4 v u : Int32} {n : Int} {L L1 : List Int32} (h0 : 0 ≤ n) (h20 : n ≤ 20) (hx : 0 ≤ x2.toInt) (hL : ∀ j : Nat, (j : Int) < n → L.getD j 0 = L1.getD j 0) (h : fHi K N b x2 x3 x4 v n L) (g : fHi K N b x2 x3 x4 u n L1) : v = u := by
  by_cases c0 : n < x2.toInt
  · rw [h.1 c0, g.1 c0]
  · have h := h.2 (by omega)
    have g := g.2 (by omega)
    by_cases c : n = 20
    · rw [h.1 c, g.1 c]
    · refine vBst_same (h.2 (by omega)) (g.2 (by omega)) (gBst_eq _ (fun p hp => gPur_eq (fun j hj => rIns_eq (lF_eq hL) (by omega) j (by omega))))
theorem gBst_m {f : Nat → Int32} {m m1 : Int32} {w : Int} {k : Nat} (e : m = m1) : gBst f m w k = gBst f m1 w k := by subst e; rfl
theorem fLt_same {K : gK} {N : List Int32} {x2 x3 v u : Int32} {n : Int} {L L1 : List Int32} (h0 : 0 ≤ n) (hL : ∀ j : Nat, (j : Int) < n → L.getD j 0 = L1.getD j 0) (h : fLt K N x2 x3 v n L) (g : fLt K N x2 x3 u n L1) : v = u := by
  refine vBst_same h g ((gBst_eq _ (fun p hp => gPur_eq (fun j hj => rSwp_eq (lF_eq hL) (by omega) j (by omega)))).trans (gBst_m (gPur_eq (fun j hj => lF_eq hL j (by omega)))))
/-! the reference puts in by moving one by one, and takes out again -/
def kPu (L0 L1 : List Int32) (k n : Int) : Prop := ∀ j : Nat, (j : Int) ≤ n → L1.getD j 0 = if k < (j : Int) then L0.getD (j - 1) 0 else L0.getD j 0
theorem kPu_0 {L0 L1 : List Int32} {k n : Int} (e : L1 = L0) (h : n ≤ k) : kPu L0 L1 k n := by subst e; exact fun j hj => by rw [if_neg (by omega)]
theorem kPu_step {L0 L1 L2 : List Int32} {k k1 y n : Int32} {m : Nat} (h : kPu L0 L1 k.toInt n.toInt) (lL : L1.length = m) (hk : 1 ≤ k.toInt) (hm : k.toInt < (m : Int)) (h1 : k1.toInt = k.toInt - 1) (hy : y.toInt = k.toInt - 1) (e : L2 = L1.set k.toNatClampNeg (L1.getD y.toNatClampNeg 0)) (hn : k.toInt ≤ n.toInt) : kPu L0 L2 k1.toInt n.toInt := by
  have t0 := Int32.toNat_toInt k
  have t1 := Int32.toNat_toInt y
  subst e
  intro j hj
  rw [kset_gI (by omega)]
  by_cases c : j = k.toNatClampNeg
  · rw [if_pos c, if_pos (by omega), h _ (by omega), if_neg (by omega), show y.toNatClampNeg = j - 1 by omega]
  · rw [if_neg c, h j hj]
    by_cases c2 : k.toInt < (j : Int)
    · rw [if_pos c2, if_pos (by omega)]
    · rw [if_neg c2, if_neg (by omega)]
theorem kPu_end {L0 L1 L2 : List Int32} {k p n x : Int32} {m : Nat} (h : kPu L0 L1 k.toInt n.toInt) (lL : L1.length = m) (hk : k.toInt = p.toInt) (h0 : 0 ≤ p.toInt) (hm : p.toInt < (m : Int)) (e : L2 = L1.set p.toNatClampNeg x) : kIs L2 (rIns (lF L0) x p.toInt.toNat) (n.toInt + 1) := by
  have t0 := Int32.toNat_toInt p
  subst e
  intro j hj
  rw [kset_gI (by omega)]
  unfold rIns lF
  by_cases c : j = p.toNatClampNeg
  · rw [if_pos c, if_neg (by omega), if_pos (by omega)]
  · rw [if_neg c, h j (by omega)]
    by_cases c2 : j < p.toInt.toNat
    · rw [if_neg (by omega), if_pos c2]
    · rw [if_pos (by omega), if_neg c2, if_neg (by omega)]
def rDel (R : Nat → Int32) (p : Nat) (j : Nat) : Int32 := if j < p then R j else R (j + 1)
theorem rDel_ins {R : Nat → Int32} {x : Int32} (p : Nat) : rDel (rIns R x p) p = R := by
  funext j
  unfold rDel rIns
  by_cases c : j < p
  · rw [if_pos c, if_pos c]
  · rw [if_neg c, if_neg (by omega), if_neg (by omega), show j + 1 - 1 = j by omega]
/-- behind p, ahead of k, all have gone one place on -/
def kTa (L0 L1 : List Int32) (p k : Int) (n : Int) : Prop := ∀ j : Nat, (j : Int) ≤ n → L1.getD j 0 = if p ≤ (j : Int) ∧ (j : Int) < k then L0.getD (j + 1) 0 else L0.getD j 0
theorem kTa_0 {L0 L1 : List Int32} {p k n : Int} (e : L1 = L0) (h : k ≤ p) : kTa L0 L1 p k n := by subst e; exact fun j hj => by rw [if_neg (by omega)]
theorem kTa_step {L0 L1 L2 : List Int32} {p n : Int} {k k1 y : Int32} {m : Nat} (h : kTa L0 L1 p k.toInt n) (lL : L1.length = m) (h0 : 0 ≤ k.toInt) (hp : p ≤ k.toInt) (hm : k.toInt < (m : Int)) (hn : k.toInt + 1 ≤ n) (h1 : k1.toInt = k.toInt + 1) (hy : y.toInt = k.toInt + 1) (e : L2 = L1.set k.toNatClampNeg (L1.getD y.toNatClampNeg 0)) : kTa L0 L2 p k1.toInt n := by
  have t0 := Int32.toNat_toInt k
  have t1 := Int32.toNat_toInt y
  subst e
  intro j hj
  rw [kset_gI (by omega)]
  by_cases c : j = k.toNatClampNeg
  · rw [if_pos c, if_pos (by omega), h _ (by omega), if_neg (by omega), show y.toNatClampNeg = j + 1 by omega]
  · rw [if_neg c, h j hj]
    by_cases c2 : p ≤ (j : Int) ∧ (j : Int) < k.toInt
    · rw [if_pos c2, if_pos (by omega)]
    · rw [if_neg c2, if_neg (by omega)]
theorem kTa_end {L0 L1 : List Int32} {p : Int32} {k n : Int} (h : kTa L0 L1 p.toInt k n) (h0 : 0 ≤ p.toInt) (hk : n ≤ k) : kIs L1 (rDel (lF L0) p.toInt.toNat) n := by
  intro j hj
  rw [h j (by omega)]
  unfold rDel lF
  by_cases c : j < p.toInt.toNat
  · rw [if_pos c, if_neg (by omega)]
  · rw [if_neg c, if_pos (by omega)]
/-- put in, and taken out again -/
theorem kIs_back {L1 L2 : List Int32} {R : Nat → Int32} {x : Int32} {p : Nat} {n : Int} (h : kIs L1 (rIns R x p) (n + 1)) (g : kIs L2 (rDel (lF L1) p) n) : kIs L2 R n := by
  intro j hj
  rw [g j hj]
  unfold rDel lF
  by_cases c : j < p
  · rw [if_pos c, h j (by omega)]
    unfold rIns
    rw [if_pos c]
  · rw [if_neg c, h (j + 1) (by omega)]
    unfold rIns
    rw [if_neg (by omega), if_neg (by omega), show j + 1 - 1 = j by omega]
theorem kIs_lF {L L1 : List Int32} {R : Nat → Int32} {x : Int32} {p : Nat} {n : Int} (h : kIs L1 (rIns (lF L) x p) (n + 1)) (g : kIs L R n) (hp : (p : Int) ≤ n) : kIs L1 (rIns R x p) (n + 1) := by
  intro j hj
  rw [h j hj]
  exact rIns_eq (fun m hm => g m hm) hp j hj
theorem kIs_sw {L L1 : List Int32} {R : Nat → Int32} {p p1 : Int32} {n : Int} {m : Nat} (h : kIs L R n) (lL : L.length = m) (h0 : 0 ≤ p.toInt) (e1 : p1.toInt = p.toInt + 1) (hp : p1.toInt < n) (hn : n ≤ (m : Int)) (e : L1 = (L.set p.toNatClampNeg (L.getD p1.toNatClampNeg 0)).set p1.toNatClampNeg (L.getD p.toNatClampNeg 0)) : kIs L1 (rSwp R p.toInt.toNat) n := kIs_swp h lL h0 e1 hp hn e
