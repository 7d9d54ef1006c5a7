/-! A ROW READ: how many come, by a SHELF's bytes; what SHELVES refuse -/
def kRp (b : Int32) (V : Nat → Int32) (n : Int) (L : List Int32) : Prop := ∀ j : Nat, (j : Int) < n → L.getD j 0 = V j ∧ 0 ≤ (V j).toInt ∧ (V j).toInt < b.toInt
def kRd (b : Int32) (len : Int) (V : Nat → Int32) (n : Int) (L : List Int32) : Prop := (0 ≤ n ∧ n ≤ 20 ∧ n ≤ len) ∧ kRp b V n L ∧ (n = 20 ∨ n = len ∨ ¬ (0 ≤ (V n.toNat).toInt ∧ (V n.toNat).toInt < b.toInt))
theorem kRp_0 {b : Int32} {V : Nat → Int32} {n : Int} {L : List Int32} (h : n ≤ 0) : kRp b V n L := fun j hj => by omega
theorem kRp_step {b x k k1 y : Int32} {Q : List Int64} {n m : Nat} {L L1 : List Int32} (h : kRp b (vQ Q n) k.toInt L) (lL : L.length = m) (h0 : 0 ≤ k.toInt) (hm : k.toInt < (m : Int)) (h1 : k1.toInt = k.toInt + 1) (e : L1 = L.set k.toNatClampNeg x) (hy : y.toInt = (n : Int) + k.toInt) (hx : x = (Q.getD y.toNatClampNeg 0).toInt32) (b0 : 0 ≤ x.toInt) (b1 : x.toInt < b.toInt) : kRp b (vQ Q n) k1.toInt L1 := by
  have tk := Int32.toNat_toInt k
  have ex : x = vQ Q n k.toInt.toNat := hx.trans (bt_idx (by omega))
  subst e
  intro j hj
  rw [kset_gI (by omega)]
  by_cases c : j = k.toNatClampNeg
  · rw [if_pos c, show j = k.toInt.toNat by omega, ← ex]
    exact ⟨rfl, b0, b1⟩
  · rw [if_neg c]
    exact h j (by omega)
theorem kRd_mk {b k n : Int32} {len : Int} {V : Nat → Int32} {L : List Int32} (h : kRp b V k.toInt L) (e : n.toInt = k.toInt) (h0 : 0 ≤ k.toInt) (h20 : k.toInt ≤ 20) (hl : k.toInt ≤ len) (s : k.toInt = 20 ∨ k.toInt = len ∨ ¬ (0 ≤ (V k.toInt.toNat).toInt ∧ (V k.toInt.toNat).toInt < b.toInt)) : kRd b len V n.toInt L := by
  unfold kRd
  rw [e]
  exact ⟨⟨h0, h20, hl⟩, h, s⟩
theorem kRd_bad {b x k y : Int32} {Q : List Int64} {n : Nat} (hy : y.toInt = (n : Int) + k.toInt) (h0 : 0 ≤ k.toInt) (hx : x = (Q.getD y.toNatClampNeg 0).toInt32) (hb : ¬ (0 ≤ x.toInt ∧ x.toInt < b.toInt)) : ¬ (0 ≤ (vQ Q n k.toInt.toNat).toInt ∧ (vQ Q n k.toInt.toNat).toInt < b.toInt) := by
  rw [← (hx.trans (bt_idx (by omega)) : x = vQ Q n k.toInt.toNat)]
  exact hb
/-- both read as many -/
theorem kRd_n {b b1 : Int32} {len len1 : Int} {V V1 : Nat → Int32} {n n1 : Int} {L L1 : List Int32} (h : kRd b len V n L) (h1 : kRd b1 len1 V1 n1 L1) (eb : b = b1) (el : len = len1) (eV : ∀ j : Nat, (j : Int) < len → V j = V1 j) : n = n1 ∧ ∀ j : Nat, (j : Int) < n → L.getD j 0 = L1.getD j 0 := by
  subst eb
  subst el
  obtain ⟨⟨a1, a2, a3⟩, a4, a5⟩ := h
  obtain ⟨⟨c1, c2, c3⟩, c4, c5⟩ := h1
  have en : n = n1 := by
    rcases Int.lt_trichotomy n n1 with hl | he | hl
    · exfalso
      rcases a5 with s | s | s
      · omega
      · omega
      · have := (c4 n.toNat (by omega)).2
        rw [← eV n.toNat (by omega)] at this
        exact s this
    · exact he
    · exfalso
      rcases c5 with s | s | s
      · omega
      · omega
      · have := (a4 n1.toNat (by omega)).2
        rw [eV n1.toNat (by omega)] at this
        exact s this
  subst en
  exact ⟨rfl, fun j hj => by rw [(a4 j hj).1, (c4 j hj).1, eV j (by omega)]⟩
theorem kRd_row {b : Int32} {len : Int} {V : Nat → Int32} {i : Nat → Int32} {a : Nat → List Int32} (h : kRd b len V (i 3138).toInt (a 74)) (e : i 64 = b) : kRow i a := by
  subst e
  intro j hj
  obtain ⟨_, h4, _⟩ := h
  rw [(h4 j hj).1]
  exact (h4 j hj).2
/-- the class's SHELF x1: why it gives no ROW of bytes -/
def cRb (i : Nat → Int32) (x1 v : Int32) : Prop := (¬ (0 ≤ x1.toInt ∧ x1.toInt ≤ 5) ∧ v = -1) ∨ ∃ t : Nat, t < 6 ∧ x1.toInt = (t : Int) ∧ (((i (6656 + 128 * t)).toInt = 0 ∧ v = -11) ∨ ((i (6656 + 128 * t)).toInt ≠ 0 ∧ ¬ ((i (6656 + 128 * t)).toInt = 2 ∧ (i (6658 + 128 * t)).toInt = 0) ∧ v = -12) ∨ ((i (6656 + 128 * t)).toInt = 2 ∧ (i (6658 + 128 * t)).toInt = 0 ∧ v = 0))
def cRow1 (i : Nat → Int32) (q : Nat → List Int64) (x1 : Int32) (n : Int) (L : List Int32) : Prop := ∃ t : Nat, t < 6 ∧ x1.toInt = (t : Int) ∧ ((i (6656 + 128 * t)).toInt = 2 ∧ (i (6658 + 128 * t)).toInt = 0) ∧ kRd (i 64) (i (6659 + 128 * t)).toInt (vQ (q (105 + 2 * t)) 0) n L
def cPl (i : Nat → Int32) (q : Nat → List Int64) (x1 v : Int32) (n : Int32) (L : List Int32) : Prop := (v.toInt < 0 ∧ cRb i x1 v) ∨ (v = 0 ∧ cRow1 i q x1 n.toInt L)
theorem cRb_t {i : Nat → Int32} {x1 v : Int32} {t : Nat} (h : cRb i x1 v) (hv : v.toInt = 0) (hx : x1.toInt = (t : Int)) : (i (6656 + 128 * t)).toInt = 2 ∧ (i (6658 + 128 * t)).toInt = 0 := by
  rcases h with ⟨_, e⟩ | ⟨s, _, es, h⟩
  · rw [e] at hv; exact absurd hv (by decide)
  · have e : s = t := by omega
    subst e
    rcases h with ⟨_, e⟩ | ⟨_, _, e⟩ | ⟨e1, e2, _⟩
    · rw [e] at hv; exact absurd hv (by decide)
    · rw [e] at hv; exact absurd hv (by decide)
    · exact ⟨e1, e2⟩
def cShf (i : Nat → Int32) (q : Nat → List Int64) (x1 v : Int32) (f : Int → List Int32 → Prop) : Prop := (v.toInt < 0 ∧ cRb i x1 v) ∨ ∃ (n : Int) (L : List Int32), cRow1 i q x1 n L ∧ f n L
theorem cShf_bar {i : Nat → Int32} {q : Nat → List Int64} {x1 v n : Int32} {L : List Int32} {f : Int → List Int32 → Prop} (h : cPl i q x1 v n L) (hv : v.toInt < 0) : cShf i q x1 v f := by
  rcases h with h | h
  · exact Or.inl h
  · rw [h.1] at hv; exact absurd hv (by decide)
theorem cPl_row {i : Nat → Int32} {q : Nat → List Int64} {x1 v n : Int32} {L : List Int32} (h : cPl i q x1 v n L) (hv : ¬ (v.toInt < 0)) : cRow1 i q x1 n.toInt L := by
  rcases h with h | h
  · exact absurd h.1 hv
  · exact h.2
theorem cShf_go {i : Nat → Int32} {q : Nat → List Int64} {x1 v n : Int32} {L : List Int32} {f : Int → List Int32 → Prop} (h : cRow1 i q x1 n.toInt L) (hf : f n.toInt L) : cShf i q x1 v f := Or.inr ⟨n.toInt, L, h, hf⟩
theorem cRow1_row {i i1 : Nat → Int32} {a1 : Nat → List Int32} {q : Nat → List Int64} {x1 : Int32} (h : cRow1 i q x1 (i1 3138).toInt (a1 74)) (e : i1 64 = i 64) : kRow i1 a1 := by
  obtain ⟨t, _, _, _, g⟩ := h
  exact kRd_row g e
def cTop (ok : Prop) (i : Nat → Int32) (q : Nat → List Int64) (x1 v : Int32) (f : Int → List Int32 → Prop) : Prop := (¬ ok ∧ v = -1) ∨ (ok ∧ cShf i q x1 v f)
/-- the reference's -/
def rRb (a : Nat → List Int32) (x1 v : Int32) : Prop := ((a 136).getD x1.toNatClampNeg 0).toInt = -1 ∧ v = -11 ∨ ((a 136).getD x1.toNatClampNeg 0).toInt ≠ -1 ∧ ((a 136).getD x1.toNatClampNeg 0).toInt ≠ 0 ∧ v = -12
def rRow1 (i : Nat → Int32) (a : Nat → List Int32) (q : Nat → List Int64) (x1 : Int32) (n : Int) (L : List Int32) : Prop := ((a 136).getD x1.toNatClampNeg 0).toInt = 0 ∧ kRd (i 7424) ((a 137).getD x1.toNatClampNeg 0).toInt (vQ (q 138) (60 * x1.toInt).toNat) n L
def rTop (ok : Prop) (i : Nat → Int32) (a : Nat → List Int32) (q : Nat → List Int64) (x1 v : Int32) (f : Int → List Int32 → Prop) : Prop := (¬ (ok ∧ 0 ≤ x1.toInt ∧ x1.toInt ≤ 5) ∧ v = -1) ∨ ((ok ∧ 0 ≤ x1.toInt ∧ x1.toInt ≤ 5) ∧ (rRb a x1 v ∨ ∃ (n : Int) (L : List Int32), rRow1 i a q x1 n L ∧ f n L))
theorem top_same {okc okr : Prop} {i : Nat → Int32} {a : Nat → List Int32} {q : Nat → List Int64} {x1 v w : Int32} {fc fr : Int → List Int32 → Prop} (K : kShel i a q) (e : i 64 = i 7424) (hok : okc ↔ okr) (hho : ∀ t : Nat, t < 6 → 0 ≤ (i (6656 + 128 * t)).toInt ∧ (i (6656 + 128 * t)).toInt ≤ 2) (hso : ∀ t : Nat, t < 6 → 0 ≤ (i (6658 + 128 * t)).toInt) (hln : ∀ t : Nat, t < 6 → (i (6659 + 128 * t)).toInt ≤ 60) (H : ∀ (n : Int) (L L1 : List Int32), okc → 0 ≤ n → n ≤ 20 → (∀ j : Nat, (j : Int) < n → L.getD j 0 = L1.getD j 0) → fc n L → fr n L1 → v = w) (hc : cTop okc i q x1 v fc) (hr : rTop okr i a q x1 w fr) : v = w := by
  rcases hc with ⟨n1, e1⟩ | ⟨o1, c1⟩
  · rcases hr with ⟨_, e2⟩ | ⟨⟨o2, _⟩, _⟩
    · rw [e1, e2]
    · exact absurd (hok.mpr o2) n1
  · by_cases hx : 0 ≤ x1.toInt ∧ x1.toInt ≤ 5
    · rcases hr with ⟨n2, _⟩ | ⟨_, c2⟩
      · exact absurd ⟨hok.mp o1, hx.1, hx.2⟩ n2
      · obtain ⟨t, ht, et⟩ : ∃ t : Nat, t < 6 ∧ x1.toInt = (t : Int) := ⟨x1.toInt.toNat, by omega, by omega⟩
        have e1 : x1.toNatClampNeg = t := by
          have := Int32.toNat_toInt x1
          omega
        have e60 : (60 * x1.toInt).toNat = 60 * t := by omega
        obtain ⟨s0, s1, s2⟩ := K t ht
        have ho := hho t ht
        have so := hso t ht
        have ln := hln t ht
        unfold rRb rRow1 at c2
        rw [e1, e60] at c2
        rcases c1 with ⟨hneg, c1⟩ | ⟨n, L, ⟨t1, _, et1, ⟨h2, h0⟩, rd⟩, fcn⟩
        · rcases c1 with ⟨z, _⟩ | ⟨t1, _, et1, c1⟩
          · exact absurd hx z
          · have ett : t1 = t := by omega
            subst ett
            rcases c1 with ⟨z1, z2⟩ | ⟨z1, z2, z3⟩ | ⟨z1, z2, z3⟩
            · have hm := s0 z1
              rcases c2 with (⟨_, y⟩ | ⟨y1, _⟩) | ⟨n, L, ⟨y1, _⟩, _⟩
              · rw [z2, y]
              · exact absurd hm y1
              · rw [hm] at y1; exact absurd y1 (by decide)
            · have hne : ((a 136).getD t1 0).toInt ≠ -1 ∧ ((a 136).getD t1 0).toInt ≠ 0 := by
                have hq : (i (6656 + 128 * t1)).toInt = 1 ∨ (i (6656 + 128 * t1)).toInt = 2 := by omega
                rcases hq with hq | hq
                · have := s1 hq
                  clear s0 s1 s2
                  omega
                · have := (s2 hq).1
                  clear s0 s1 s2
                  omega
              rcases c2 with (⟨y1, _⟩ | ⟨_, _, y⟩) | ⟨n, L, ⟨y1, _⟩, _⟩
              · exact absurd y1 hne.1
              · rw [z3, y]
              · exact absurd y1 hne.2
            · exfalso
              rw [z3] at hneg
              exact absurd hneg (by decide)
        · have ett : t1 = t := by omega
          subst ett
          obtain ⟨w1, w2, w3⟩ := s2 h2
          rcases c2 with (⟨y1, _⟩ | ⟨_, y1, _⟩) | ⟨n1, L1, ⟨_, rd1⟩, frn⟩
          · rw [w1, h0] at y1; exact absurd y1 (by decide)
          · rw [w1, h0] at y1; exact absurd rfl y1
          · rw [w2] at rd1
            obtain ⟨en, eL⟩ := kRd_n rd rd1 e rfl (fun j hj => by unfold vQ; rw [Nat.zero_add, w3 j hj])
            subst en
            exact H n L L1 o1 rd.1.1 rd.1.2.1 eL fcn frn
    · rcases hr with ⟨_, e2⟩ | ⟨⟨_, h1, h2⟩, _⟩
      · rcases c1 with ⟨_, c1⟩ | ⟨n, L, ⟨t1, ht1, et1, _⟩, _⟩
        · rcases c1 with ⟨_, z⟩ | ⟨t1, ht1, et1, _⟩
          · rw [z, e2]
          · exact absurd ⟨by omega, by omega⟩ hx
        · exact absurd ⟨by omega, by omega⟩ hx
      · exact absurd ⟨h1, h2⟩ hx

