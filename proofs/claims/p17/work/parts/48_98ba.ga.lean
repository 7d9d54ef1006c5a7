/-! RING and MOST: what is asked; the reference's flat row of steps -/
def eG (Z : List Int32) (a b : Nat) : Bool := decide (0 < (Z.getD (8 * a + b) 0).toInt)
def fRgG (Z : List Int32) (v : Int32) : Prop := ∃ F : Int, 30 ≤ F ∧ v.toInt = if rLst F (wAll F (eG Z) 8) 8 < F then rLst F (wAll F (eG Z) 8) 8 else -2
def dZ (Z : List Int32) : Prop := Z.length = 64 ∧ ∀ u : Nat, u < 8 → Z.getD (9 * u) 0 = 0
def kGn (D : Nat → Int) (w g c : Int32) : Prop := (c.toInt = 0 ∧ w.toInt = -2) ∨ (1 ≤ c.toInt ∧ w.toInt = ((gGn D c.toInt.toNat : Nat) : Int) ∧ g.toInt = D (gGn D c.toInt.toNat))
def fRn (K : gK) (S : gS) (b : Int32) (N : List Int32) (x2 v : Int32) (n : Int) (L : List Int32) : Prop := (x2.toInt = 0 → fRg (gAt K L S n.toNat).2.2.2.2.2 v) ∧ (x2.toInt = 1 → (0 < b.toInt → v.toInt = ((gGn (dGn (gAt K L S n.toNat).1 N) b.toInt.toNat : Nat) : Int)) ∧ (b.toInt ≤ 0 → v.toInt = -2)) ∧ dZ (gAt K L S n.toNat).2.2.2.2.2 ∧ (b.toInt ≤ 0 → n ≤ 0)
def fRnR (K : gK) (S : gS) (b : Int32) (N : List Int32) (x2 v : Int32) (n : Int) (L : List Int32) : Prop := (0 < b.toInt → (x2.toInt = 0 → fRgG (gAt K L S n.toNat).2.2.2.2.2 v) ∧ (x2.toInt = 1 → v.toInt = ((gGn (dGn (gAt K L S n.toNat).1 N) b.toInt.toNat : Nat) : Int))) ∧ (b.toInt ≤ 0 → v.toInt = -2)
section GA
variable {D : Nat → Int} {w w1 g c c1 s v x y z b k k1 u1 u2 x2 l : Int32} {Z L L1 N P : List Int32} {K : gK} {S S1 : gS} {n : Int} {f g' : Nat → Nat → Int} {E : Nat → Nat → Bool} {A B : Nat}
theorem kThm_dz {i : Nat → Int32} {a : Nat → List Int32} {r : Nat → Nat} (h : kThm i a r S) : dZ S.2.2.2.2.2 := by
  obtain ⟨_, _, ⟨L0, hP⟩, hF, hD⟩ := h
  refine ⟨hP.2.2.2.2.2.2.2, fun u hu => ?_⟩
  have e : (cRow 50 a u).getD u 0 = S.2.2.2.2.2.getD (8 * u + u) 0 := hF u u hu hu
  have d : (cRow 50 a u).getD u 0 = 0 := hD u hu
  rw [show 9 * u = 8 * u + u by omega, ← e]
  exact d
theorem eG_eF (h : dZ Z) : eG Z = eF Z := by
  funext a b
  show decide (0 < (Z.getD (8 * a + b) 0).toInt) = decide (a ≠ b ∧ 0 < (Z.getD (8 * a + b) 0).toInt)
  by_cases q : a = b
  · subst q
    have e : Z.getD (8 * a + a) 0 = 0 := by
      by_cases z : a < 8
      · rw [show 8 * a + a = 9 * a by omega]
        exact h.2 a z
      · rw [List.getD_eq_getElem?_getD, List.getElem?_eq_none (by rw [h.1]; omega)]
        rfl
    rw [e, decide_eq_false (by decide : ¬ (0 < (0 : Int32).toInt)), decide_eq_false (fun z : a ≠ a ∧ 0 < (0 : Int32).toInt => z.1 rfl)]
  · by_cases z : 0 < (Z.getD (8 * a + b) 0).toInt
    · rw [decide_eq_true z, decide_eq_true (⟨q, z⟩ : a ≠ b ∧ 0 < (Z.getD (8 * a + b) 0).toInt)]
    · rw [decide_eq_false z, decide_eq_false (fun t : a ≠ b ∧ 0 < (Z.getD (8 * a + b) 0).toInt => z t.2)]
theorem wAll_no {F : Int} (hF : 30 ≤ F) (h : ∀ a b, E a b = false) : ∀ k a b, wAll F E k a b = F
  | 0, a, b => by
    show (if E a b = true then (1 : Int) else F) = F
    rw [h a b]
    rfl
  | k + 1, a, b => by
    have e1 := wAll_no hF h k a k
    have e2 := wAll_no hF h k k b
    have e3 := wAll_no hF h k a b
    show wSt k (wAll F E k) a b = F
    rcases wSt_cases (wAll F E k) k a b with q | q <;> omega
theorem rLst_no {F : Int} {d : Nat → Nat → Int} (h : ∀ a, d a a = F) : ∀ c, rLst F d c = F
  | 0 => rfl
  | c + 1 => by
    show (if d c c < rLst F d c then d c c else rLst F d c) = F
    rw [rLst_no h c, h c]
    exact ite_self F
theorem fRg_no (h : fRg (List.replicate 64 0) v) : v.toInt = -2 := by
  obtain ⟨F, hF, e⟩ := h
  have q : ∀ a b, eF (List.replicate 64 0) a b = false := fun a b => by
    show decide (a ≠ b ∧ 0 < ((List.replicate 64 (0 : Int32)).getD (8 * a + b) 0).toInt) = false
    refine decide_eq_false (fun z => ?_)
    rw [rep_g] at z
    exact absurd z.2 (by decide)
  rw [rLst_no (fun a => wAll_no hF q 8 a a) 8, if_neg (by omega)] at e
  exact e
theorem fRn_same (hS : gEq S S1) (hn : 0 ≤ n) (hL : ∀ j : Nat, (j : Int) < n → L.getD j 0 = L1.getD j 0) (ok : 0 ≤ x2.toInt ∧ x2.toInt ≤ 1) (hz : S.2.2.2.2.2 = List.replicate 64 0) (h : fRn K S b N x2 u1 n L) (h1 : fRnR K S1 b N x2 u2 n L1) : u1 = u2 := by
  have e1 := gAt_row (K := K) (S := S1) hL n.toNat (by omega)
  obtain ⟨⟨e2, e3⟩, _⟩ := gAt_eq (K := K) (L := L) hS n.toNat
  have e4 : (gAt K L1 S1 n.toNat).2.2.2.2.2 = (gAt K L S n.toNat).2.2.2.2.2 := by rw [← e1, e3]
  have e5 : (gAt K L1 S1 n.toNat).1 = (gAt K L S n.toNat).1 := by rw [← e1, e2]
  obtain ⟨a0, a1, a2, a3⟩ := h
  by_cases c : 0 < b.toInt
  · obtain ⟨b0, b1⟩ := h1.1 c
    rw [e4] at b0
    rw [e5] at b1
    by_cases q : x2.toInt = 0
    · have t := b0 q
      unfold fRgG at t
      rw [eG_eF a2] at t
      exact fRg_same (a0 q) t
    · exact kj_v (((a1 (by omega)).1 c).trans (b1 (by omega)).symm)
  · refine kj_v ?_
    rw [h1.2 (by omega)]
    by_cases q : x2.toInt = 0
    · have t := a0 q
      have n0 : n.toNat = 0 := by
        have := a3 (by omega)
        omega
      rw [n0] at t
      have t : fRg S.2.2.2.2.2 u1 := t
      rw [hz] at t
      exact fRg_no t
    · exact (a1 (by omega)).2 (by omega)
/-! who gains most -/
theorem kGn_0 (h : c.toInt = 0) (h1 : w.toInt = -2) : kGn D w g c := Or.inl ⟨h, h1⟩
theorem kGn_up (h : kGn D w g c) (h0 : 0 ≤ c.toInt) (h1 : c1.toInt = c.toInt + 1) (ei : s.toInt = D c.toInt.toNat) (hz : w.toInt = -2 ∨ g.toInt < s.toInt) (e : w1.toInt = c.toInt) : kGn D w1 s c1 := by
  have q : c.toInt.toNat = 0 ∨ D (gGn D c.toInt.toNat) < D c.toInt.toNat := by
    rcases h with ⟨q, _⟩ | ⟨_, q2, q3⟩ <;> omega
  have ec : c1.toInt.toNat = c.toInt.toNat + 1 := by omega
  have eg : gGn D c1.toInt.toNat = c.toInt.toNat := by
    rw [ec]
    show (if c.toInt.toNat = 0 ∨ D (gGn D c.toInt.toNat) < D c.toInt.toNat then c.toInt.toNat else gGn D c.toInt.toNat) = c.toInt.toNat
    rw [if_pos q]
  refine Or.inr ⟨by omega, ?_, ?_⟩
  · rw [eg]
    omega
  · rw [eg]
    exact ei
theorem kGn_no (h : kGn D w g c) (h0 : 0 ≤ c.toInt) (h1 : c1.toInt = c.toInt + 1) (ei : s.toInt = D c.toInt.toNat) (hz : ¬ (w.toInt = -2) ∧ s.toInt ≤ g.toInt) : kGn D w g c1 := by
  rcases h with ⟨_, q⟩ | ⟨q1, q2, q3⟩
  · exact absurd q hz.1
  · have ec : c1.toInt.toNat = c.toInt.toNat + 1 := by omega
    have eg : gGn D c1.toInt.toNat = gGn D c.toInt.toNat := by
      rw [ec]
      show (if c.toInt.toNat = 0 ∨ D (gGn D c.toInt.toNat) < D c.toInt.toNat then c.toInt.toNat else gGn D c.toInt.toNat) = gGn D c.toInt.toNat
      rw [if_neg (by omega)]
    refine Or.inr ⟨by omega, ?_, ?_⟩
    · rw [eg]
      exact q2
    · rw [eg]
      exact q3
theorem kGn_end (h : kGn D w g c) (h1 : (0 ≤ b.toInt → c.toInt = b.toInt) ∧ 0 ≤ b.toInt) : (0 < b.toInt → w.toInt = ((gGn D b.toInt.toNat : Nat) : Int)) ∧ (b.toInt ≤ 0 → w.toInt = -2) := by
  have e := h1.1 h1.2
  rw [← e]
  rcases h with ⟨q, q1⟩ | ⟨q, q1, _⟩
  · exact ⟨fun z => by omega, fun _ => q1⟩
  · exact ⟨fun _ => q1, fun z => by omega⟩
theorem dGn_of {a2 N P1 : List Int32} (h0 : 0 ≤ c.toInt) (h8 : c.toInt < 8) (hP : ∀ j : Nat, j < 8 → P1.getD j 0 = P.getD j 0) (hN : ∀ j : Nat, j < 8 → a2.getD j 0 = N.getD j 0) : (P1.getD c.toNatClampNeg 0 - a2.getD c.toNatClampNeg 0).toInt = dGn P N c.toInt.toNat := by
  have tc := Int32.toNat_toInt c
  show _ = (P.getD c.toInt.toNat 0 - N.getD c.toInt.toNat 0).toInt
  rw [show c.toInt.toNat = c.toNatClampNeg by omega, hP _ (by omega), hN _ (by omega)]
theorem gGn_1 (h : w.toInt = 0) (h1 : c.toInt = 1) : w.toInt = ((gGn D c.toInt.toNat : Nat) : Int) := by
  rw [h1, h]
  rfl
/-! the reference's flat row -/
theorem vIn_1 (h : v.toInt = 1) (y0 : 0 ≤ y.toInt) (hf : 0 < (Z.getD y.toNatClampNeg 0).toInt) : v.toInt = wIn 99 (eG Z) (y.toInt.toNat / 8) (y.toInt.toNat % 8) := by
  have ty := Int32.toNat_toInt y
  have t : eG Z (y.toInt.toNat / 8) (y.toInt.toNat % 8) = true := by
    show decide (0 < (Z.getD (8 * (y.toInt.toNat / 8) + y.toInt.toNat % 8) 0).toInt) = true
    rw [show 8 * (y.toInt.toNat / 8) + y.toInt.toNat % 8 = y.toNatClampNeg by omega]
    exact decide_eq_true hf
  unfold wIn
  rw [if_pos t, h]
theorem vIn_n (h : v.toInt = 99) (y0 : 0 ≤ y.toInt) (hf : ¬ (0 < (Z.getD y.toNatClampNeg 0).toInt)) : v.toInt = wIn 99 (eG Z) (y.toInt.toNat / 8) (y.toInt.toNat % 8) := by
  have ty := Int32.toNat_toInt y
  have t : ¬ (eG Z (y.toInt.toNat / 8) (y.toInt.toNat % 8) = true) := by
    show ¬ (decide (0 < (Z.getD (8 * (y.toInt.toNat / 8) + y.toInt.toNat % 8) 0).toInt) = true)
    rw [show 8 * (y.toInt.toNat / 8) + y.toInt.toNat % 8 = y.toNatClampNeg by omega]
    exact fun q => hf (of_decide_eq_true q)
  unfold wIn
  rw [if_neg t, h]
theorem vG_x (h : kVs L y.toInt f g') (y0 : 0 ≤ y.toInt) (y8 : y.toInt < 64) : (L.getD y.toNatClampNeg 0).toInt = g' (y.toInt.toNat / 8) (y.toInt.toNat % 8) := by
  have ty := Int32.toNat_toInt y
  have e := kVs_x (r := y.toInt.toNat / 8) (c := y.toInt.toNat % 8) h (by omega) (by omega) (by omega)
  rw [show 8 * (y.toInt.toNat / 8) + y.toInt.toNat % 8 = y.toNatClampNeg by omega] at e
  exact e
theorem vG_a (h : kVs L n (wAll 99 E (k.toInt.toNat + 1)) (wAll 99 E k.toInt.toNat)) (k0 : 0 ≤ k.toInt) (k8 : k.toInt < 8) (y0 : 0 ≤ y.toInt) (y8 : y.toInt < 64) (hx : x.toInt = y.toInt - y.toInt % 8 + k.toInt) : (L.getD x.toNatClampNeg 0).toInt = wAll 99 E k.toInt.toNat (y.toInt.toNat / 8) k.toInt.toNat := by
  have tx := Int32.toNat_toInt x
  have e := kVs_k (r := y.toInt.toNat / 8) (c := k.toInt.toNat) h (by omega) (by omega) (wSt_k (wAll_kk (by decide) (by omega)) _)
  rw [show 8 * (y.toInt.toNat / 8) + k.toInt.toNat = x.toNatClampNeg by omega] at e
  exact e
theorem vG_b (h : kVs L n (wAll 99 E (k.toInt.toNat + 1)) (wAll 99 E k.toInt.toNat)) (k0 : 0 ≤ k.toInt) (k8 : k.toInt < 8) (y0 : 0 ≤ y.toInt) (y8 : y.toInt < 64) (hx : x.toInt = 8 * k.toInt + y.toInt % 8) : (L.getD x.toNatClampNeg 0).toInt = wAll 99 E k.toInt.toNat k.toInt.toNat (y.toInt.toNat % 8) := by
  have tx := Int32.toNat_toInt x
  have e := kVs_k (r := k.toInt.toNat) (c := y.toInt.toNat % 8) h (by omega) (by omega) (wSt_kb (wAll_kk (by decide) (by omega)) _)
  rw [show 8 * k.toInt.toNat + y.toInt.toNat % 8 = x.toNatClampNeg by omega] at e
  exact e
theorem vG_rng (e : v.toInt = wAll 99 E k.toInt.toNat A B) (k8 : k.toInt < 8) : 1 ≤ v.toInt ∧ v.toInt ≤ 99 := by
  rcases wI_rng (wI_all (F := 99) (E := E) (by decide) k.toInt.toNat (by omega)) A B with q | q <;> omega
theorem vNx (h : kVs L n (wAll 99 E (k.toInt.toNat + 1)) (wAll 99 E k.toInt.toNat)) (hn : 64 ≤ n) (k0 : 0 ≤ k.toInt) (h1 : k1.toInt = k.toInt + 1) : kVs L 0 (wAll 99 E (k1.toInt.toNat + 1)) (wAll 99 E k1.toInt.toNat) := by
  rw [show k1.toInt.toNat = k.toInt.toNat + 1 by omega]
  exact kVs_nx h hn rfl
theorem vG_d (h : kVs L 0 (wAll 99 E (k.toInt.toNat + 1)) (wAll 99 E k.toInt.toNat)) (hk : k.toInt = 8) (c0 : 0 ≤ c.toInt) (c8 : c.toInt < 8) (hx : x.toInt = 9 * c.toInt) : (L.getD x.toNatClampNeg 0).toInt = wAll 99 E 8 c.toInt.toNat c.toInt.toNat := by
  have tx := Int32.toNat_toInt x
  rw [hk] at h
  have e := kVs_x (r := c.toInt.toNat) (c := c.toInt.toNat) h (by omega) (by omega) (by omega)
  rw [show 8 * c.toInt.toNat + c.toInt.toNat = x.toNatClampNeg by omega] at e
  exact e
theorem vLst_0 {d : Nat → Nat → Int} (h : v.toInt = 99) (hc : c.toInt = 0) : v.toInt = rLst 99 d c.toInt.toNat := by
  rw [hc, h]
  rfl
theorem vLst_1 {d : Nat → Nat → Int} (h : l.toInt = rLst 99 d c.toInt.toNat) (hc : c.toInt = 8) (hl : l.toInt < 99) (hv : v.toInt = l.toInt) : v.toInt = if rLst 99 d 8 < 99 then rLst 99 d 8 else -2 := by
  rw [hc] at h
  have h : l.toInt = rLst 99 d 8 := h
  rw [← h, if_pos hl, hv]
theorem vLst_n {d : Nat → Nat → Int} (h : l.toInt = rLst 99 d c.toInt.toNat) (hc : c.toInt = 8) (hl : 99 ≤ l.toInt) (hv : v.toInt = -2) : v.toInt = if rLst 99 d 8 < 99 then rLst 99 d 8 else -2 := by
  rw [hc] at h
  have h : l.toInt = rLst 99 d 8 := h
  rw [← h, if_neg (by omega), hv]
theorem kRd_0 {len : Int} {V : Nat → Int32} (hb : b.toInt ≤ 0) (hl : 0 ≤ len) : kRd b len V 0 L := ⟨⟨Int.le_refl _, by decide, hl⟩, fun j hj => by omega, Or.inr (Or.inr (fun z => by omega))⟩
theorem cRow1_no {i : Nat → Int32} {q : Nat → List Int64} {x1 : Int32} (h : cRow1 i q x1 n L) : (i 64).toInt ≤ 0 → n ≤ 0 := by
  intro hb
  obtain ⟨t, _, _, _, rd⟩ := h
  by_cases c : n ≤ 0
  · exact c
  · have := (rd.2.1 0 (by omega)).2
    omega
theorem kj_lt1 {p q : Int} (e : p = q) (h : 0 < p) : 0 < q := by omega
theorem kj_lt0 {p q : Int} (e : p = q) (h : p ≤ 0) : ¬ (0 < q) := by omega
theorem kj_lt2 {p q d e : Int} (h1 : p = d) (h2 : q = e) (h : p < q) : d < e := by omega
theorem kj_le2 {p q d e : Int} (h1 : p = d) (h2 : q = e) (h : p ≤ q) : d ≤ e := by omega
theorem dGn_w (e : w.toInt = ((gGn D c.toInt.toNat : Nat) : Int)) : D w.toInt.toNat = D (gGn D c.toInt.toNat) := by
  rw [e]
  rfl
theorem gGn_len (e : w.toInt = ((gGn D k.toInt.toNat : Nat) : Int)) (h : k.toInt = b.toInt) : w.toInt = ((gGn D b.toInt.toNat : Nat) : Int) := by
  rw [← h]
  exact e
end GA

