/-! BY TURNS, PURELY: best play of both, over the markets alone; the class's row of outcomes, level by level -/
def gNx (K : gK) (c : Int32) (N : List Int32) : List Int32 := (gIn K c (N, 8, 0, 0, 0, List.replicate 64 0)).1
def tCb (t : Nat) (o w : Int32) : Int32 := if t % 2 = 0 then sMx o w else sMn o w
def tWho (A B : Int32) (t : Nat) : Int32 := if t % 2 = 0 then A else B
def gTv (K : gK) (A B : Int32) (n : Nat) : Nat → List Int32 → Int32
  | 0, N => N.getD A.toNatClampNeg 0 - N.getD B.toNatClampNeg 0
  | r + 1, N => tCb (n - (r + 1)) (gTv K A B n r N) (gTv K A B n r (gNx K (tWho A B (n - (r + 1))) N))
def gPq (K : gK) (A B : Int32) (N : List Int32) : Nat → Nat → List Int32
  | 0, _ => N
  | t + 1, j => if j % 2 = 1 then gNx K (tWho A B t) (gPq K A B N t (j / 2)) else gPq K A B N t (j / 2)
def gVl (K : gK) (A B : Int32) (N : List Int32) (n t j : Nat) : Int32 := gTv K A B n (n - t) (gPq K A B N t j)
def kOc (L : List Int32) (b : Int) (f : Nat → Int32) : Prop := ∀ j : Nat, (j : Int) < b → L.getD j 0 = f j
def kOl (L : List Int32) (f g : Nat → Int32) (b : Int) (t : Nat) : Prop := (∀ j : Nat, (j : Int) < b → L.getD j 0 = f j) ∧ (∀ j : Nat, b ≤ (j : Int) → j < 2 ^ (t + 1) → L.getD j 0 = g j)
def cTu (ok : Prop) (v : Int32) (f : Prop) : Prop := (¬ ok ∧ v = -2000000000) ∨ (ok ∧ f)
def fTu (o w v x3 : Int32) : Prop := (x3.toInt = 0 → (o.toInt ≤ v.toInt ∧ w.toInt ≤ v.toInt) ∧ (v.toInt = o.toInt ∨ v.toInt = w.toInt)) ∧ (x3.toInt = 1 → (o.toInt < w.toInt → v.toInt = 1) ∧ (¬ (o.toInt < w.toInt) → v.toInt = 0))
theorem dBit0 : ∀ c : Fin 32, ∀ s : Fin 5, ((Int32.ofNat c.val >>> (Int32.ofNat s.val &&& 31)) &&& 1).toInt = ((c.val / 2 ^ s.val % 2 : Nat) : Int) := by decide +kernel
theorem dSh0 : ∀ t : Fin 6, ((1 : Int32) <<< (Int32.ofNat t.val &&& 31)).toInt = ((2 ^ t.val : Nat) : Int) := by decide +kernel
theorem dOf {c : Int32} (h0 : 0 ≤ c.toInt) : Int32.ofNat c.toInt.toNat = c := by
  have b := kd_bd c
  refine kj_v ?_
  rw [Int32.toInt_ofNat_of_lt (by omega)]
  omega
theorem dBit {c s : Int32} (c0 : 0 ≤ c.toInt) (c1 : c.toInt < 32) (s0 : 0 ≤ s.toInt) (s1 : s.toInt < 5) : ((c >>> (s &&& 31)) &&& 1).toInt = ((c.toInt.toNat / 2 ^ s.toInt.toNat % 2 : Nat) : Int) := by
  have e : ((Int32.ofNat c.toInt.toNat >>> (Int32.ofNat s.toInt.toNat &&& 31)) &&& 1).toInt = ((c.toInt.toNat / 2 ^ s.toInt.toNat % 2 : Nat) : Int) := dBit0 ⟨c.toInt.toNat, by omega⟩ ⟨s.toInt.toNat, by omega⟩
  rw [dOf c0, dOf s0] at e
  exact e
theorem dSh {t : Int32} (h0 : 0 ≤ t.toInt) (h1 : t.toInt ≤ 5) : ((1 : Int32) <<< (t &&& 31)).toInt = ((2 ^ t.toInt.toNat : Nat) : Int) := by
  have e : ((1 : Int32) <<< (Int32.ofNat t.toInt.toNat &&& 31)).toInt = ((2 ^ t.toInt.toNat : Nat) : Int) := dSh0 ⟨t.toInt.toNat, by omega⟩
  rw [dOf h0] at e
  exact e
section BT
variable {K : gK} {A B : Int32} {N L L1 : List Int32} {S : gS} {f g : Nat → Int32} {m n t j : Nat} {b : Int}
theorem gNx_of {c : Int32} (S : gS) : (gIn K c S).1 = gNx K c S.1 := by
  have h : dRg S.2.2.2.2.1 S (S.1, 8, 0, 0, 0, List.replicate 64 0) := ⟨rfl, (Int32.zero_add _).symm⟩
  exact (gIn_rl h).1
theorem tWho_of {t x : Int32} (ht : 0 ≤ t.toInt) (hx : (t.toInt % 2 = 0 ∧ x = A) ∨ (¬ (t.toInt % 2 = 0) ∧ x = B)) : tWho A B t.toInt.toNat = x := by
  unfold tWho
  rcases hx with ⟨h, e⟩ | ⟨h, e⟩
  · rw [if_pos (by omega), e]
  · rw [if_neg (by omega), e]
theorem gPq_0c {i1 : Nat → Int32} {a a1 : Nat → List Int32} {t : Int32} (h1 : a1 118 = a 118) (h : t.toInt = 0) : (gB i1 a1).1 = gPq K A B (a 118) t.toInt.toNat j := by
  rw [h]
  exact h1
theorem gPq_yes {t t1 c n s x : Int32} (hS : S.1 = gPq K A B N t.toInt.toNat (c.toInt.toNat / 2 ^ (n.toInt.toNat - t.toInt.toNat))) (ht : 0 ≤ t.toInt) (hn : t.toInt < n.toInt) (h5 : n.toInt ≤ 5) (h1 : t1.toInt = t.toInt + 1) (c0 : 0 ≤ c.toInt) (c1 : c.toInt < 32) (hs : s.toInt = n.toInt - 1 - t.toInt) (hx : (t.toInt % 2 = 0 ∧ x = A) ∨ (¬ (t.toInt % 2 = 0) ∧ x = B)) (hb : ((c >>> (s &&& 31)) &&& 1).toInt = 1) : (gIn K x S).1 = gPq K A B N t1.toInt.toNat (c.toInt.toNat / 2 ^ (n.toInt.toNat - t1.toInt.toNat)) := by
  rw [dBit c0 c1 (by omega) (by omega), show s.toInt.toNat = n.toInt.toNat - t1.toInt.toNat by omega] at hb
  rw [show n.toInt.toNat - t.toInt.toNat = (n.toInt.toNat - t1.toInt.toNat) + 1 by omega] at hS
  have et : t1.toInt.toNat = t.toInt.toNat + 1 := by omega
  generalize n.toInt.toNat - t1.toInt.toNat = m at hS hb ⊢
  have hb' : c.toInt.toNat / 2 ^ m % 2 = 1 := by
    generalize c.toInt.toNat / 2 ^ m = X at hb
    omega
  rw [et]
  show _ = if c.toInt.toNat / 2 ^ m % 2 = 1 then gNx K (tWho A B t.toInt.toNat) (gPq K A B N t.toInt.toNat (c.toInt.toNat / 2 ^ m / 2)) else _
  rw [if_pos hb', tWho_of ht hx, gNx_of, hS, Nat.pow_succ, Nat.div_div_eq_div_mul]
theorem gPq_no {t t1 c n s : Int32} (hS : S.1 = gPq K A B N t.toInt.toNat (c.toInt.toNat / 2 ^ (n.toInt.toNat - t.toInt.toNat))) (ht : 0 ≤ t.toInt) (hn : t.toInt < n.toInt) (h5 : n.toInt ≤ 5) (h1 : t1.toInt = t.toInt + 1) (c0 : 0 ≤ c.toInt) (c1 : c.toInt < 32) (hs : s.toInt = n.toInt - 1 - t.toInt) (hb : ¬ (((c >>> (s &&& 31)) &&& 1).toInt = 1)) : S.1 = gPq K A B N t1.toInt.toNat (c.toInt.toNat / 2 ^ (n.toInt.toNat - t1.toInt.toNat)) := by
  rw [dBit c0 c1 (by omega) (by omega), show s.toInt.toNat = n.toInt.toNat - t1.toInt.toNat by omega] at hb
  rw [show n.toInt.toNat - t.toInt.toNat = (n.toInt.toNat - t1.toInt.toNat) + 1 by omega] at hS
  have et : t1.toInt.toNat = t.toInt.toNat + 1 := by omega
  generalize n.toInt.toNat - t1.toInt.toNat = m at hS hb ⊢
  have hb' : ¬ (c.toInt.toNat / 2 ^ m % 2 = 1) := by
    generalize c.toInt.toNat / 2 ^ m = X at hb
    omega
  rw [et]
  show _ = if c.toInt.toNat / 2 ^ m % 2 = 1 then _ else gPq K A B N t.toInt.toNat (c.toInt.toNat / 2 ^ m / 2)
  rw [if_neg hb', hS, Nat.pow_succ, Nat.div_div_eq_div_mul]
theorem gVl_leaf {t c n v1 v2 : Int32} (hS : S.1 = gPq K A B N t.toInt.toNat (c.toInt.toNat / 2 ^ (n.toInt.toNat - t.toInt.toNat))) (ht : t.toInt = n.toInt) (e1 : v1 = S.1.getD A.toNatClampNeg 0) (e2 : v2 = S.1.getD B.toNatClampNeg 0) : v1 - v2 = gVl K A B N n.toInt.toNat n.toInt.toNat c.toInt.toNat := by
  rw [ht, Nat.sub_self, Nat.pow_zero, Nat.div_one] at hS
  rw [e1, e2, hS]
  unfold gVl
  rw [Nat.sub_self]
  rfl
theorem gVl_up (h : t < n) : gVl K A B N n t j = tCb t (gVl K A B N n (t + 1) (2 * j)) (gVl K A B N n (t + 1) (2 * j + 1)) := by
  have e1 : gPq K A B N (t + 1) (2 * j) = gPq K A B N t j := by
    show (if 2 * j % 2 = 1 then _ else gPq K A B N t (2 * j / 2)) = _
    rw [if_neg (by omega), show 2 * j / 2 = j by omega]
  have e2 : gPq K A B N (t + 1) (2 * j + 1) = gNx K (tWho A B t) (gPq K A B N t j) := by
    show (if (2 * j + 1) % 2 = 1 then gNx K (tWho A B t) (gPq K A B N t ((2 * j + 1) / 2)) else _) = _
    rw [if_pos (by omega), show (2 * j + 1) / 2 = j by omega]
  unfold gVl
  rw [e1, e2, show n - t = (n - (t + 1)) + 1 by omega]
  show tCb (n - (n - (t + 1) + 1)) (gTv K A B n (n - (t + 1)) (gPq K A B N t j)) (gTv K A B n (n - (t + 1)) (gNx K (tWho A B (n - (n - (t + 1) + 1))) (gPq K A B N t j))) = _
  rw [show n - (n - (t + 1) + 1) = t by omega]
theorem kOc_c {b1 : Int} (h : kOc L b f) (e : L1 = L) (hb : b1 ≤ b) : kOc L1 b1 f := by
  subst e
  exact fun j hj => h j (by omega)
theorem kOc_0 (h : b ≤ 0) : kOc L b f := fun j hj => by omega
theorem kOc_step {c c1 x : Int32} (h : kOc L c.toInt f) (lL : L.length = m) (h0 : 0 ≤ c.toInt) (hm : c.toInt < (m : Int)) (h1 : c1.toInt = c.toInt + 1) (e : L1 = L.set c.toNatClampNeg x) (hx : x = f c.toInt.toNat) : kOc L1 c1.toInt f := by
  have tc := Int32.toNat_toInt c
  subst e
  intro j hj
  rw [kset_gI (by omega)]
  by_cases q : j = c.toNatClampNeg
  · rw [if_pos q, hx, show c.toInt.toNat = j by omega]
  · rw [if_neg q]
    exact h j (by omega)
/-- all leaves: the level of the last turn -/
theorem kOc_lv {c n t : Int32} (h : kOc L c.toInt (gVl K A B N n.toInt.toNat n.toInt.toNat)) (hc : ((1 : Int32) <<< (n &&& 31)).toInt ≤ c.toInt) (h0 : 1 ≤ n.toInt) (h5 : n.toInt ≤ 5) (ht : t.toInt = n.toInt - 1) : kOc L ((2 ^ (t.toInt.toNat + 1) : Nat) : Int) (gVl K A B N n.toInt.toNat (t.toInt.toNat + 1)) := by
  rw [dSh (by omega) h5] at hc
  rw [show t.toInt.toNat + 1 = n.toInt.toNat by omega]
  exact kOc_c h rfl hc
theorem kOl_0 {k : Int32} (h : kOc L ((2 ^ (t + 1) : Nat) : Int) g) (h0 : k.toInt = 0) : kOl L f g k.toInt t := by
  refine ⟨fun j hj => by omega, fun j _ hj => h j ?_⟩
  exact Int.ofNat_lt.mpr hj
theorem sMx_of {o w v : Int32} (h : (o.toInt ≤ v.toInt ∧ w.toInt ≤ v.toInt) ∧ (v.toInt = o.toInt ∨ v.toInt = w.toInt)) : v = sMx o w := by
  unfold sMx
  by_cases c : o.toInt < w.toInt
  · have e : decide (o < w) = true := decide_eq_true (Int32.lt_iff_toInt_lt.mpr c)
    rw [e]
    exact kj_v (by show v.toInt = w.toInt; omega)
  · have e : decide (o < w) = false := decide_eq_false (fun q => c (Int32.lt_iff_toInt_lt.mp q))
    rw [e]
    exact kj_v (by show v.toInt = o.toInt; omega)
theorem sMn_of {o w v : Int32} (h : (v.toInt ≤ o.toInt ∧ v.toInt ≤ w.toInt) ∧ (v.toInt = o.toInt ∨ v.toInt = w.toInt)) : v = sMn o w := by
  unfold sMn
  by_cases c : w.toInt < o.toInt
  · have e : decide (w < o) = true := decide_eq_true (Int32.lt_iff_toInt_lt.mpr c)
    rw [e]
    exact kj_v (by show v.toInt = w.toInt; omega)
  · have e : decide (w < o) = false := decide_eq_false (fun q => c (Int32.lt_iff_toInt_lt.mp q))
    rw [e]
    exact kj_v (by show v.toInt = o.toInt; omega)
theorem tCb_of {t o w v : Int32} (ht : 0 ≤ t.toInt) (h : (t.toInt % 2 = 0 ∧ (o.toInt ≤ v.toInt ∧ w.toInt ≤ v.toInt) ∧ (v.toInt = o.toInt ∨ v.toInt = w.toInt)) ∨ (¬ (t.toInt % 2 = 0) ∧ (v.toInt ≤ o.toInt ∧ v.toInt ≤ w.toInt) ∧ (v.toInt = o.toInt ∨ v.toInt = w.toInt))) : v = tCb t.toInt.toNat o w := by
  unfold tCb
  rcases h with ⟨c, h⟩ | ⟨c, h⟩
  · rw [if_pos (by omega)]
    exact sMx_of h
  · rw [if_neg (by omega)]
    exact sMn_of h
theorem kOl_step {t k k1 y y1 o w v : Int32} (h : kOl L (gVl K A B N n t.toInt.toNat) (gVl K A B N n (t.toInt.toNat + 1)) k.toInt t.toInt.toNat) (lL : L.length = 32) (h0 : 0 ≤ k.toInt) (hk : k.toInt < ((1 : Int32) <<< (t &&& 31)).toInt) (t0 : 0 ≤ t.toInt) (t4 : t.toInt ≤ 4) (tn : t.toInt < (n : Int)) (h1 : k1.toInt = k.toInt + 1) (hy : y.toInt = 2 * k.toInt) (hy1 : y1.toInt = 2 * k.toInt + 1) (eo : o = L.getD y.toNatClampNeg 0) (ew : w = L.getD y1.toNatClampNeg 0) (hv : (t.toInt % 2 = 0 ∧ (o.toInt ≤ v.toInt ∧ w.toInt ≤ v.toInt) ∧ (v.toInt = o.toInt ∨ v.toInt = w.toInt)) ∨ (¬ (t.toInt % 2 = 0) ∧ (v.toInt ≤ o.toInt ∧ v.toInt ≤ w.toInt) ∧ (v.toInt = o.toInt ∨ v.toInt = w.toInt))) (e : L1 = L.set k.toNatClampNeg v) : kOl L1 (gVl K A B N n t.toInt.toNat) (gVl K A B N n (t.toInt.toNat + 1)) k1.toInt t.toInt.toNat := by
  have tk := Int32.toNat_toInt k
  have ty := Int32.toNat_toInt y
  have ty1 := Int32.toNat_toInt y1
  rw [dSh t0 (by omega)] at hk
  have hp : 2 ^ t.toInt.toNat ≤ 2 ^ 4 := Nat.pow_le_pow_right (by decide) (by omega)
  have hp1 : 2 ^ (t.toInt.toNat + 1) = 2 ^ t.toInt.toNat * 2 := Nat.pow_succ ..
  have hc := tCb_of t0 hv
  obtain ⟨c1, c2⟩ := h
  have e1 : L.getD (2 * k.toInt.toNat) 0 = gVl K A B N n (t.toInt.toNat + 1) (2 * k.toInt.toNat) := c2 _ (by omega) (by omega)
  have e2 : L.getD (2 * k.toInt.toNat + 1) 0 = gVl K A B N n (t.toInt.toNat + 1) (2 * k.toInt.toNat + 1) := c2 _ (by omega) (by omega)
  rw [eo, ew, show y.toNatClampNeg = 2 * k.toInt.toNat by omega, show y1.toNatClampNeg = 2 * k.toInt.toNat + 1 by omega, e1, e2, ← gVl_up (by omega)] at hc
  subst e
  refine ⟨fun j hj => ?_, fun j hj hj1 => ?_⟩
  · rw [kset_gI (by omega)]
    by_cases q : j = k.toNatClampNeg
    · rw [if_pos q, hc, show k.toInt.toNat = j by omega]
    · rw [if_neg q]
      exact c1 j (by omega)
  · rw [kset_gI (by omega), if_neg (by omega)]
    exact c2 j (by omega) hj1
/-- a level done -/
theorem kOl_end {t t1 k : Int32} (h : kOl L (gVl K A B N n t.toInt.toNat) g k.toInt t.toInt.toNat) (hk : ((1 : Int32) <<< (t &&& 31)).toInt ≤ k.toInt) (t0 : 1 ≤ t.toInt) (t4 : t.toInt ≤ 4) (h1 : t1.toInt = t.toInt - 1) : kOc L ((2 ^ (t1.toInt.toNat + 1) : Nat) : Int) (gVl K A B N n (t1.toInt.toNat + 1)) := by
  rw [dSh (by omega) (by omega)] at hk
  rw [show t1.toInt.toNat + 1 = t.toInt.toNat by omega]
  exact fun j hj => h.1 j (by omega)
/-- behind all levels: if the one stays out first, if he comes in -/
theorem kOc_end {t : Int32} (h : kOc L ((2 ^ (t.toInt.toNat + 1) : Nat) : Int) (gVl K A B N n (t.toInt.toNat + 1))) (h0 : t.toInt = 0) : L.getD 0 0 = gTv K A B n (n - 1) N ∧ L.getD 1 0 = gTv K A B n (n - 1) (gNx K A N) := by
  rw [h0] at h
  exact ⟨h 0 (by decide), h 1 (by decide)⟩
theorem fTu_same {o w u1 u2 x3 : Int32} (ok : 0 ≤ x3.toInt ∧ x3.toInt ≤ 1) (h : fTu o w u1 x3) (h1 : fTu o w u2 x3) : u1 = u2 := by
  obtain ⟨a0, a1⟩ := h
  obtain ⟨b0, b1⟩ := h1
  refine kj_v ?_
  by_cases c : x3.toInt = 0
  · obtain ⟨p, q⟩ := a0 c
    obtain ⟨p1, q1⟩ := b0 c
    omega
  · obtain ⟨p, q⟩ := a1 (by omega)
    obtain ⟨p1, q1⟩ := b1 (by omega)
    by_cases d : o.toInt < w.toInt
    · rw [p d, p1 d]
    · rw [q d, q1 d]
theorem kj_ltn {t x : Int32} (h : t.toInt < x.toInt) (h0 : 0 ≤ x.toInt) : t.toInt < ((x.toInt.toNat : Nat) : Int) := by omega
theorem fTu_of {o o1 w w1 v x3 : Int32} (ho : o1 = o) (hw : w1 = w) (h : fTu o1 w1 v x3) : fTu o w v x3 := by
  subst ho
  subst hw
  exact h
theorem gTv_0 {x1 x2 : Int32} (h : x1.toInt = x2.toInt) : N.getD A.toNatClampNeg 0 - N.getD B.toNatClampNeg 0 = gTv K A B n (x2.toInt - x1.toInt).toNat N := by
  rw [h, Int.sub_self]
  rfl
theorem gTv_up {K1 K2 : gK} {N1 N2 : List Int32} {x1 x2 y v v1 v2 : Int32} (h1 : v1 = gTv K1 A B x2.toInt.toNat (x2.toInt - y.toInt).toNat N1) (h2 : v2 = gTv K2 A B x2.toInt.toNat (x2.toInt - x1.toInt - 1).toNat (gNx K2 (tWho A B x1.toInt.toNat) N2)) (k1 : K1 = K) (k2 : K2 = K) (e1 : N1 = N) (e2 : N2 = N) (hy : y.toInt = x1.toInt + 1) (h0 : 0 ≤ x1.toInt) (hlt : x1.toInt < x2.toInt) (hv : (x1.toInt % 2 = 0 ∧ (v1.toInt ≤ v.toInt ∧ v2.toInt ≤ v.toInt) ∧ (v.toInt = v1.toInt ∨ v.toInt = v2.toInt)) ∨ (¬ (x1.toInt % 2 = 0) ∧ (v.toInt ≤ v1.toInt ∧ v.toInt ≤ v2.toInt) ∧ (v.toInt = v1.toInt ∨ v.toInt = v2.toInt))) : v = gTv K A B x2.toInt.toNat (x2.toInt - x1.toInt).toNat N := by
  rw [k1, e1] at h1
  rw [k2, e2, show (x2.toInt - x1.toInt - 1).toNat = (x2.toInt - y.toInt).toNat by omega] at h2
  rw [show (x2.toInt - x1.toInt).toNat = (x2.toInt - y.toInt).toNat + 1 by omega]
  show v = tCb (x2.toInt.toNat - ((x2.toInt - y.toInt).toNat + 1)) (gTv K A B x2.toInt.toNat (x2.toInt - y.toInt).toNat N) (gTv K A B x2.toInt.toNat (x2.toInt - y.toInt).toNat (gNx K (tWho A B (x2.toInt.toNat - ((x2.toInt - y.toInt).toNat + 1))) N))
  rw [show x2.toInt.toNat - ((x2.toInt - y.toInt).toNat + 1) = x1.toInt.toNat by omega, ← h1, ← h2]
  exact tCb_of h0 hv
theorem gTv_ca {K1 K2 : gK} {N1 : List Int32} {T : gS} {x x1 x2 y v : Int32} (h : v = gTv K1 A B x2.toInt.toNat (x2.toInt - y.toInt).toNat N1) (k1 : K1 = K) (hN : N1 = (gIn K2 x T).1) (k2 : K2 = K) (hT : T.1 = N) (hx : (x1.toInt % 2 = 0 ∧ x = A) ∨ (¬ (x1.toInt % 2 = 0) ∧ x = B)) (hy : y.toInt = x1.toInt + 1) (h0 : 0 ≤ x1.toInt) : v = gTv K A B x2.toInt.toNat (x2.toInt - x1.toInt - 1).toNat (gNx K (tWho A B x1.toInt.toNat) N) := by
  rw [h, k1, hN, gNx_of, k2, hT, tWho_of h0 hx, show (x2.toInt - y.toInt).toNat = (x2.toInt - x1.toInt - 1).toNat by omega]
theorem gTv_top1 {K1 : gK} {N1 : List Int32} {x2 y v : Int32} (h : v = gTv K1 A B x2.toInt.toNat (x2.toInt - y.toInt).toNat N1) (k1 : K1 = K) (e : N1 = N) (hy : y.toInt = 1) (h1 : 1 ≤ x2.toInt) : v = gTv K A B x2.toInt.toNat (x2.toInt.toNat - 1) N := by
  rw [h, k1, e, hy, show (x2.toInt - 1).toNat = x2.toInt.toNat - 1 by omega]
theorem gTv_top2 {K1 : gK} {N1 : List Int32} {x2 y v : Int32} (h : v = gTv K1 A B x2.toInt.toNat (x2.toInt - y.toInt - 1).toNat (gNx K1 (tWho A B y.toInt.toNat) N1)) (k1 : K1 = K) (e : N1 = N) (hy : y.toInt = 0) (h1 : 1 ≤ x2.toInt) : v = gTv K A B x2.toInt.toNat (x2.toInt.toNat - 1) (gNx K A N) := by
  rw [h, k1, e, hy, show (x2.toInt - 0 - 1).toNat = x2.toInt.toNat - 1 by omega]
  rfl
end BT

