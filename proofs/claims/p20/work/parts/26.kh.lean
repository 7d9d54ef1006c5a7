/-! THE LAW'S CODE: how high the stack is; what a part of a text adds to the code -/
def kEff (v : Int32) (k : Nat) : Option Nat := if 18 ≤ v.toInt ∨ (0 ≤ v.toInt ∧ v.toInt ≤ 5) then some (k + 1) else if v.toInt = 16 ∨ v.toInt = 17 then (if 1 ≤ k then some k else none) else if 6 ≤ v.toInt ∧ v.toInt ≤ 15 then (if 2 ≤ k then some (k - 1) else none) else none
def kHt (L : List Int32) (f : Nat) : Nat → Nat → Option Nat
  | 0, h => some h
  | n + 1, h => (kHt L f n h).bind (kEff (L.getD (f + n) 0))
theorem kEff_push {v : Int32} (k : Nat) (h : 18 ≤ v.toInt ∨ (0 ≤ v.toInt ∧ v.toInt ≤ 5)) : kEff v k = some (k + 1) := if_pos h
theorem kEff_un {v : Int32} {k : Nat} (h : v.toInt = 16 ∨ v.toInt = 17) (hk : 1 ≤ k) : kEff v k = some k := by
  unfold kEff
  rw [if_neg (by omega), if_pos h, if_pos hk]
theorem kEff_bin {v : Int32} {k : Nat} (h0 : 6 ≤ v.toInt) (h1 : v.toInt ≤ 15) (hk : 2 ≤ k) : kEff v k = some (k - 1) := by
  unfold kEff
  rw [if_neg (by omega), if_neg (by omega), if_pos ⟨h0, h1⟩, if_pos hk]
theorem kEff_shift {v : Int32} {k k1 : Nat} (h : Nat) (e : kEff v k = some k1) : kEff v (h + k) = some (h + k1) := by
  unfold kEff at e ⊢
  split at e
  next c => rw [if_pos c]; cases e; rw [Nat.add_assoc]
  next c =>
    rw [if_neg c]
    split at e
    next c2 =>
      rw [if_pos c2]
      split at e
      next c3 => cases e; rw [if_pos (by omega)]
      next => cases e
    next c2 =>
      rw [if_neg c2]
      split at e
      next c3 =>
        rw [if_pos c3]
        split at e
        next c4 => cases e; rw [if_pos (by omega)]; congr 1; omega
        next => cases e
      next => cases e
theorem kHt_add {L : List Int32} {f : Nat} : ∀ (m n h : Nat), kHt L f (n + m) h = (kHt L f n h).bind (fun z => kHt L (f + n) m z)
  | 0, n, h => by
    show kHt L f n h = _
    cases kHt L f n h <;> rfl
  | m + 1, n, h => by
    show (kHt L f (n + m) h).bind (kEff (L.getD (f + (n + m)) 0)) = _
    rw [kHt_add m n h]
    cases kHt L f n h with
    | none => rfl
    | some z =>
      show _ = (kHt L (f + n) m z).bind (kEff (L.getD (f + n + m) 0))
      rw [Nat.add_assoc]
      rfl
/-- one value comes out of the code from f to t -/
def kSeg (L : List Int32) (f t : Int) : Prop := 0 ≤ f ∧ f ≤ t ∧ t ≤ 200 ∧ kHt L f.toNat (t.toNat - f.toNat) 0 = some 1
/-- on the way through such code: so high is the stack -/
def kWk (L : List Int32) (f i top : Int) : Prop := 0 ≤ top ∧ f ≤ i ∧ kHt L f.toNat (i.toNat - f.toNat) 0 = some top.toNat
theorem kWk_start {L : List Int32} {f t : Int} (h : kSeg L f t) : kWk L f f 0 := ⟨Int.le_refl 0, Int.le_refl f, by rw [Nat.sub_self]; rfl⟩
theorem kHt_none {L : List Int32} {f : Nat} : ∀ {m n h : Nat}, kHt L f n h = none → kHt L f (n + m) h = none := by
  intro m n h e
  rw [kHt_add, e]
  rfl
theorem kHt_le {L : List Int32} {f : Nat} : ∀ {n h k : Nat}, kHt L f n h = some k → k ≤ h + n
  | 0, h, k, e => by cases e; omega
  | n + 1, h, k, e => by
    have e : (kHt L f n h).bind (kEff (L.getD (f + n) 0)) = some k := e
    cases e1 : kHt L f n h with
    | none => rw [e1] at e; cases e
    | some z =>
      rw [e1] at e
      have := kHt_le e1
      have e : kEff (L.getD (f + n) 0) z = some k := e
      unfold kEff at e
      split at e
      · cases e; omega
      · split at e
        · split at e
          · cases e; omega
          · cases e
        · split at e
          · split at e
            · cases e; omega
            · cases e
          · cases e
theorem kWk_here {L : List Int32} {f t i top : Int} {x : Int32} (hs : kSeg L f t) (hw : kWk L f i top) (hx : x.toInt = i) (hi : i < t) : ∃ k1, kEff (L.getD x.toNatClampNeg 0) top.toNat = some k1 ∧ kHt L f.toNat ((i + 1).toNat - f.toNat) 0 = some k1 := by
  obtain ⟨s1, s2, s3, s4⟩ := hs
  obtain ⟨w1, w2, w3⟩ := hw
  have tx := Int32.toNat_toInt x
  have hxn : x.toNatClampNeg = f.toNat + (i.toNat - f.toNat) := by omega
  have st : kHt L f.toNat ((i + 1).toNat - f.toNat) 0 = kEff (L.getD x.toNatClampNeg 0) top.toNat := by
    rw [show (i + 1).toNat - f.toNat = (i.toNat - f.toNat) + 1 by omega]
    show (kHt L f.toNat (i.toNat - f.toNat) 0).bind (kEff (L.getD (f.toNat + (i.toNat - f.toNat)) 0)) = _
    rw [w3, ← hxn]
    rfl
  cases e : kEff (L.getD x.toNatClampNeg 0) top.toNat with
  | some k1 => exact ⟨k1, rfl, st.trans e⟩
  | none =>
    rw [e] at st
    have := kHt_none (m := t.toNat - (i + 1).toNat) st
    rw [show (i + 1).toNat - f.toNat + (t.toNat - (i + 1).toNat) = t.toNat - f.toNat by omega, s4] at this
    cases this
/-- what is known of the next code -/
theorem kWk_facts {L : List Int32} {f t i top : Int} {x : Int32} (hs : kSeg L f t) (hw : kWk L f i top) (hx : x.toInt = i) (hi : i < t) : 0 ≤ (L.getD x.toNatClampNeg 0).toInt ∧ (((L.getD x.toNatClampNeg 0).toInt = 16 ∨ (L.getD x.toNatClampNeg 0).toInt = 17) → 1 ≤ top) ∧ ((6 ≤ (L.getD x.toNatClampNeg 0).toInt ∧ (L.getD x.toNatClampNeg 0).toInt ≤ 15) → 2 ≤ top) ∧ top ≤ i := by
  obtain ⟨k1, h1, h2⟩ := kWk_here hs hw hx hi
  have hle := kHt_le hw.2.2
  obtain ⟨w1, w2, w3⟩ := hw
  have s1 := hs.1
  unfold kEff at h1
  split at h1
  next c => exact ⟨by omega, fun z => by omega, fun z => by omega, by omega⟩
  next c =>
    split at h1
    next c2 =>
      split at h1
      next c3 => exact ⟨by omega, fun z => by omega, fun z => by omega, by omega⟩
      next => cases h1
    next c2 =>
      split at h1
      next c3 =>
        split at h1
        next c4 => exact ⟨by omega, fun z => by omega, fun z => by omega, by omega⟩
        next => cases h1
      next => cases h1
theorem kWk_next {L : List Int32} {f t i top j top1 : Int} {x : Int32} (hs : kSeg L f t) (hw : kWk L f i top) (hx : x.toInt = i) (hi : i < t) (hj : j = i + 1) (h : ((18 ≤ (L.getD x.toNatClampNeg 0).toInt ∨ (L.getD x.toNatClampNeg 0).toInt ≤ 5) → top1 = top + 1) ∧ (((L.getD x.toNatClampNeg 0).toInt = 16 ∨ (L.getD x.toNatClampNeg 0).toInt = 17) → top1 = top) ∧ ((6 ≤ (L.getD x.toNatClampNeg 0).toInt ∧ (L.getD x.toNatClampNeg 0).toInt ≤ 15) → top1 = top - 1)) : kWk L f j top1 := by
  subst hj
  obtain ⟨k1, h1, h2⟩ := kWk_here hs hw hx hi
  obtain ⟨w1, w2, w3⟩ := hw
  have e : top1 = (k1 : Int) := by
    unfold kEff at h1
    split at h1
    next c => cases h1; omega
    next c =>
      split at h1
      next c2 =>
        split at h1
        next c3 => cases h1; omega
        next => cases h1
      next c2 =>
        split at h1
        next c3 =>
          split at h1
          next c4 => cases h1; omega
          next => cases h1
        next => cases h1
  subst e
  exact ⟨by omega, by omega, h2⟩
/-- the law in force: its lines' code -/
def kCode (i : Nat → Int32) (a : Nat → List Int32) : Prop := ∀ j : Nat, (j : Int) < (i 7432).toInt → (((a 120).getD j 0).toInt < ((a 121).getD j 0).toInt → kSeg (a 123) ((a 120).getD j 0).toInt ((a 121).getD j 0).toInt) ∧ kSeg (a 123) ((a 121).getD j 0).toInt ((a 122).getD j 0).toInt
theorem kCode_of {i i1 : Nat → Int32} {a a1 : Nat → List Int32} (h : kCode i a) (e0 : i1 7432 = i 7432) (e1 : a1 120 = a 120) (e2 : a1 121 = a 121) (e3 : a1 122 = a 122) (e4 : a1 123 = a 123) : kCode i1 a1 := by
  unfold kCode
  rw [e0, e1, e2, e3, e4]
  exact h
/-- what the reference's SHELVES hold; what its changes are -/
def kHold (i : Nat → Int32) (a : Nat → List Int32) : Prop := ∀ j : Nat, ((a 136).getD j 0).toInt ≤ 4 ∨ 10 ≤ ((a 136).getD j 0).toInt
theorem kHold_of {i i1 : Nat → Int32} {a a1 : Nat → List Int32} (h : kHold i a) (e : a1 136 = a 136) : kHold i1 a1 := fun j => by rw [e]; exact h j
def kChL (l : List Int32) : Prop := ∀ j : Nat, (l.getD (4 * j + 1) 0).toInt = 4 → (1 ≤ (l.getD (4 * j + 2) 0).toInt ∧ (l.getD (4 * j + 2) 0).toInt ≤ 5) ∧ (1 ≤ (l.getD (4 * j + 3) 0).toInt ∧ (l.getD (4 * j + 3) 0).toInt ≤ 5)
def kChg (i : Nat → Int32) (a : Nat → List Int32) : Prop := kChL (a 133)
theorem kChg_of {i i1 : Nat → Int32} {a a1 : Nat → List Int32} (h : kChg i a) (e : a1 133 = a 133) : kChg i1 a1 := by
  unfold kChg
  rw [e]
  exact h
theorem kj_d1 {n o o1 : Nat} (h : o + 1 ≤ o1) : 6 * n + o + 1 ≤ 6 * n + o1 := by omega
theorem kj_d2 {n m o o1 : Nat} (e : n = m + 1) (h : o + 1 ≤ o1 + 6) : 6 * m + o + 1 ≤ 6 * n + o1 := by omega
theorem kj_d3 {n c o1 : Nat} (h : c + 1 ≤ o1) : c + 1 ≤ 6 * n + o1 := by omega
theorem kj_pred {n : Nat} (h : (1 : Int) ≤ (n : Int)) : ∃ m : Nat, n = m + 1 ∧ (n : Int) = (m : Int) + 1 := ⟨n - 1, by omega, by omega⟩

