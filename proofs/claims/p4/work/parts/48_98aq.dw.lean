/-! DRAWN, PURELY: the draws, a market drawn, all of them; as the class sums, as the reference does -/
def dNx (z : Int32) : Int32 := z * 1103515245 + 12345
def dU (z s : Int32) : Int32 := (z.toUInt32 >>> (s.toUInt32 &&& Int32.toUInt32 31)).toInt32
def dRm (a b : Int32) : Int32 := a - a / b * b
def gD1 (K : gK) (n dk : Int32) (P : Int32 × gS) : Int32 × gS := (dNx P.1, gIn K (dRm (dU (dNx P.1) 8) n) (if (dRm (dU (dNx P.1) 16) 12).toInt < dk.toInt then gEve P.2 else P.2))
def gDm (K : gK) (n dk : Int32) (P : Int32 × gS) : Nat → Int32 × gS
  | 0 => P
  | k + 1 => gD1 K n dk (gDm K n dk P k)
def gM (n m : Int32) : Nat := if 0 < n.toInt then m.toInt.toNat else 0
def dF (one : Int32) (S : gS) : Int32 := if one.toInt = -1 then S.2.2.2.2.1 else S.1.getD one.toNatClampNeg 0
def gDc (K : gK) (n dk : Int32) (m : Nat) (one : Int32) (B : gS) (z : Int32) : Nat → Int32 × Int32
  | 0 => (0, z)
  | k + 1 => ((gDc K n dk m one B z k).1 + dF one (gDm K n dk ((gDc K n dk m one B z k).2, B) m).2, (gDm K n dk ((gDc K n dk m one B z k).2, B) m).1)
def gDr (K : gK) (n dk : Int32) (m : Nat) (one : Int32) (N : List Int32) (z : Int32) (R : gS) : Nat → Int32 × (Int32 × gS)
  | 0 => (0, (z, R))
  | k + 1 => ((if one.toInt = -1 then (gDr K n dk m one N z R k).1 else (gDr K n dk m one N z R k).1 + (gDm K n dk (gDr K n dk m one N z R k).2 m).2.1.getD one.toNatClampNeg 0), ((gDm K n dk (gDr K n dk m one N z R k).2 m).1, (N, (gDm K n dk (gDr K n dk m one N z R k).2 m).2.2)))
def cDw (ok : Prop) (v : Int32) (f : Prop) : Prop := (¬ ok ∧ v = -1) ∨ (ok ∧ f)
def dV (n x3 v : Int32) (G : Nat → Int32 × (Int32 × gS)) (y : Nat) : Prop := (0 < n.toInt → v = if x3.toInt = -1 then (G y).2.2.2.2.2.2.1 else (G y).1) ∧ (n.toInt ≤ 0 → v = 0)
section DW
variable {K : gK} {n n1 dk one x1 x3 z z1 s v w L T k k1 u1 u2 cm : Int32} {m : Nat} {P P1 : Int32 × gS} {B R S S1 : gS} {N : List Int32} {A : Int32}
theorem gDm_0 {k : Int32} (h : k.toInt = 0) : gDm K n dk P k.toInt.toNat = P := by
  rw [h]
  rfl
theorem gDc_0 {k : Int32} (h : k.toInt = 0) : gDc K n dk m one B z k.toInt.toNat = (0, z) := by
  rw [h]
  rfl
theorem gDr_0 {k : Int32} (h : k.toInt = 0) : gDr K n dk m one N z R k.toInt.toNat = (0, (z, R)) := by
  rw [h]
  rfl
theorem gD_yes (hn : n1 = n) (hz : z = (gDm K n dk P k.toInt.toNat).1) (h0 : 0 ≤ k.toInt) (h1 : k1.toInt = k.toInt + 1) (h : (dRm (dU (dNx z) 16) 12).toInt < dk.toInt) : gDm K n dk P k1.toInt.toNat = (dNx z, gIn K (dRm (dU (dNx z) 8) n1) (gEve (gDm K n dk P k.toInt.toNat).2)) := by
  subst hn
  subst hz
  rw [show k1.toInt.toNat = k.toInt.toNat + 1 by omega]
  show gD1 K n1 dk (gDm K n1 dk P k.toInt.toNat) = _
  unfold gD1
  rw [if_pos h]
theorem gD_no (hn : n1 = n) (hz : z = (gDm K n dk P k.toInt.toNat).1) (h0 : 0 ≤ k.toInt) (h1 : k1.toInt = k.toInt + 1) (h : ¬ ((dRm (dU (dNx z) 16) 12).toInt < dk.toInt)) : gDm K n dk P k1.toInt.toNat = (dNx z, gIn K (dRm (dU (dNx z) 8) n1) (gDm K n dk P k.toInt.toNat).2) := by
  subst hn
  subst hz
  rw [show k1.toInt.toNat = k.toInt.toNat + 1 by omega]
  show gD1 K n1 dk (gDm K n1 dk P k.toInt.toNat) = _
  unfold gD1
  rw [if_neg h]
theorem gM_to {i : Nat → Int32} {a : Nat → List Int32} {r : Nat → Nat} (h : (0 < n.toInt → k.toInt = cm.toInt) ∧ (n.toInt ≤ 0 → k.toInt = 0)) (hz : v = (gDm K n dk P k.toInt.toNat).1) (hT : kThm i a r (gDm K n dk P k.toInt.toNat).2) : v = (gDm K n dk P (gM n cm)).1 ∧ kThm i a r (gDm K n dk P (gM n cm)).2 := by
  have e : gM n cm = k.toInt.toNat := by
    unfold gM
    by_cases c : 0 < n.toInt
    · rw [if_pos c, h.1 c]
    · rw [if_neg c, h.2 (by omega)]
      rfl
  rw [e]
  exact ⟨hz, hT⟩
theorem dF_la (h : one.toInt = -1) (e : v = S.2.2.2.2.1) : v = dF one S := by
  unfold dF
  rw [if_pos h]
  exact e
theorem dF_pu (h : ¬ (one.toInt = -1)) (e : v = S.1.getD one.toNatClampNeg 0) : v = dF one S := by
  unfold dF
  rw [if_neg h]
  exact e
theorem gDc_step (hs : s = (gDc K n dk m one B x1 k.toInt.toNat).1) (hz : z = (gDc K n dk m one B x1 k.toInt.toNat).2) (h0 : 0 ≤ k.toInt) (h1 : k1.toInt = k.toInt + 1) (hw : w = dF one (gDm K n dk (z, B) m).2) (hz1 : z1 = (gDm K n dk (z, B) m).1) : s + w = (gDc K n dk m one B x1 k1.toInt.toNat).1 ∧ z1 = (gDc K n dk m one B x1 k1.toInt.toNat).2 := by
  subst hw
  subst hz1
  subst hs
  subst hz
  rw [show k1.toInt.toNat = k.toInt.toNat + 1 by omega]
  exact ⟨rfl, rfl⟩
theorem gDr_la (hs : s = (gDr K n dk m one N x1 R k.toInt.toNat).1) (hz : z = (gDm K n dk (gDr K n dk m one N x1 R k.toInt.toNat).2 m).1) (h0 : 0 ≤ k.toInt) (h1 : k1.toInt = k.toInt + 1) (h : one.toInt = -1) : s = (gDr K n dk m one N x1 R k1.toInt.toNat).1 ∧ z = (gDr K n dk m one N x1 R k1.toInt.toNat).2.1 ∧ (gDr K n dk m one N x1 R k1.toInt.toNat).2.2 = (N, (gDm K n dk (gDr K n dk m one N x1 R k.toInt.toNat).2 m).2.2) := by
  subst hs
  subst hz
  rw [show k1.toInt.toNat = k.toInt.toNat + 1 by omega]
  refine ⟨?_, rfl, rfl⟩
  show _ = if one.toInt = -1 then _ else _
  rw [if_pos h]
theorem gDr_pu (hs : s = (gDr K n dk m one N x1 R k.toInt.toNat).1) (hz : z = (gDm K n dk (gDr K n dk m one N x1 R k.toInt.toNat).2 m).1) (h0 : 0 ≤ k.toInt) (h1 : k1.toInt = k.toInt + 1) (h : ¬ (one.toInt = -1)) (hw : w = (gDm K n dk (gDr K n dk m one N x1 R k.toInt.toNat).2 m).2.1.getD one.toNatClampNeg 0) : s + w = (gDr K n dk m one N x1 R k1.toInt.toNat).1 ∧ z = (gDr K n dk m one N x1 R k1.toInt.toNat).2.1 ∧ (gDr K n dk m one N x1 R k1.toInt.toNat).2.2 = (N, (gDm K n dk (gDr K n dk m one N x1 R k.toInt.toNat).2 m).2.2) := by
  subst hs
  subst hz
  subst hw
  rw [show k1.toInt.toNat = k.toInt.toNat + 1 by omega]
  refine ⟨?_, rfl, rfl⟩
  show _ = if one.toInt = -1 then _ else _
  rw [if_neg h]
theorem gT_lay {i i1 : Nat → Int32} {a a1 : Nat → List Int32} (h : gT i a = S) (h1 : a1 118 = N) (h2 : i1 7464 = i 7464) (h3 : i1 7465 = i 7465) (h4 : i1 7466 = i 7466) (h5 : i1 7467 = i 7467) (h6 : a1 141 = a 141) : gT i1 a1 = (N, S.2) := by
  subst h
  exact gT_6 h1 h2 h3 h4 h5 h6
theorem dV_la (h : x3.toInt = -1) (e : v = L) : v = if x3.toInt = -1 then L else T := by
  rw [if_pos h]
  exact e
theorem dV_pu (h : ¬ (x3.toInt = -1)) (e : v = T) : v = if x3.toInt = -1 then L else T := by
  rw [if_neg h]
  exact e
theorem dV_end {i : Nat → Int32} {a : Nat → List Int32} {y : Int32} (h : (0 < n.toInt → k.toInt = y.toInt) ∧ (n.toInt ≤ 0 → k.toInt = 0)) (e : v = if x3.toInt = -1 then (gDr K n1 dk m one N x1 (gR i a) k.toInt.toNat).2.2.2.2.2.2.1 else (gDr K n1 dk m one N x1 (gR i a) k.toInt.toNat).1) : dV n x3 v (gDr K n1 dk m one N x1 (gR i a)) y.toInt.toNat := by
  refine ⟨fun c => ?_, fun c => ?_⟩
  · rw [← h.1 c]
    exact e
  · rw [h.2 c] at e
    rw [e]
    by_cases g : x3.toInt = -1
    · rw [if_pos g]
      rfl
    · rw [if_neg g]
      rfl
/-! both alike: what lacks is one sum, or each one's -/
def dRl (A : Int32) (S S1 : kSt) : Prop := S.1 = S1.1 ∧ S.2.2.2.1 = S1.2.2.2.1 + A
def dRg (A : Int32) (S S1 : gS) : Prop := S.1 = S1.1 ∧ S.2.2.2.2.1 = S1.2.2.2.2.1 + A
def dRp (A : Int32) (P P1 : Int32 × gS) : Prop := P.1 = P1.1 ∧ dRg A P.2 P1.2
theorem dR_ac (a b c : Int32) : a + b + c = a + c + b := by rw [Int32.add_assoc, Int32.add_comm b c, ← Int32.add_assoc]
theorem sPay_rl {c : Int32} {S S1 : kSt} (h : dRl A S S1) : dRl A (sPay c S) (sPay c S1) := by
  obtain ⟨M, p, d, la, F⟩ := S
  obtain ⟨M1, p1, d1, la1, F1⟩ := S1
  obtain ⟨h1, h2⟩ := h
  dsimp only at h1 h2
  subst h1
  subst h2
  unfold sPay dRl
  dsimp only
  by_cases e : (M.getD 19 0).toInt = c.toInt
  · rw [if_pos e, if_pos e]
    exact ⟨rfl, rfl⟩
  · rw [if_neg e, if_neg e]
    exact ⟨rfl, dR_ac _ _ _⟩
theorem sPaid_rl {t3 c : Int32} : ∀ (n : Nat) {S S1 : kSt}, dRl A S S1 → dRl A (sPaid t3 c n S) (sPaid t3 c n S1)
  | 0, _, _, h => h
  | n + 1, S, S1, h => by
    unfold sPaid
    rw [show S.1 = S1.1 from h.1]
    by_cases e : t3.toInt ≤ (S1.1.getD 18 0).toInt
    · rw [if_pos e, if_pos e]
      exact sPaid_rl n (sPay_rl h)
    · rw [if_neg e, if_neg e]
      exact h
theorem gCo_rl {c : Int32} {Q Q1 : kSt} (h : dRl A Q Q1) : dRg A (gCo K c N Q) (gCo K c N Q1) := by
  refine ⟨?_, h.2⟩
  show sCome c (gBy K N Q.1 c) Q.1 = sCome c (gBy K N Q1.1 c) Q1.1
  rw [h.1]
theorem gIn_rl {c : Int32} (h : dRg A S S1) : dRg A (gIn K c S) (gIn K c S1) := by
  obtain ⟨M, p, d, b, la, F⟩ := S
  obtain ⟨M1, p1, d1, b1, la1, F1⟩ := S1
  obtain ⟨h1, h2⟩ := h
  dsimp only at h1 h2
  subst h1
  have e : dRl A (gPaid K.1 c M la F) (gPaid K.1 c M la1 F1) := sPaid_rl (t3 := K.1) (c := c) (M.getD 18 0).toInt.toNat (S := (M, 8, 0, la, F)) (S1 := (M, 8, 0, la1, F1)) ⟨rfl, h2⟩
  unfold gIn
  dsimp only
  by_cases g : (K.2.2.2.2.getD (16 + c).toNatClampNeg 0).toInt = 1 ∧ K.2.1.toInt = 0
  · rw [if_pos g, if_pos g]
    exact ⟨rfl, h2⟩
  · rw [if_neg g, if_neg g]
    exact gCo_rl e
theorem gEve_rl (h : dRg A S S1) : dRg A (gEve S) (gEve S1) := ⟨congrArg sEnds h.1, h.2⟩
theorem gD1_rl (h : dRp A P P1) : dRp A (gD1 K n dk P) (gD1 K n dk P1) := by
  obtain ⟨z, S⟩ := P
  obtain ⟨z1, S1⟩ := P1
  obtain ⟨h1, h2⟩ := h
  dsimp only at h1 h2
  subst h1
  refine ⟨rfl, ?_⟩
  unfold gD1
  dsimp only
  by_cases g : (dRm (dU (dNx z) 16) 12).toInt < dk.toInt
  · rw [if_pos g, if_pos g]
    exact gIn_rl (gEve_rl h2)
  · rw [if_neg g, if_neg g]
    exact gIn_rl h2
theorem gDm_rl (h : dRp A P P1) : ∀ k : Nat, dRp A (gDm K n dk P k) (gDm K n dk P1 k)
  | 0 => h
  | k + 1 => gD1_rl (gDm_rl h k)
theorem gB_rp {i i1 : Nat → Int32} {a a1 : Nat → List Int32} (h : a1 118 = a 118) : dRp 0 (z, gB i1 a1) (z, gB i a) := ⟨rfl, h, (by decide : (0 : Int32) = 0 + 0)⟩
theorem gB_dm1 {i i1 : Nat → Int32} {a a1 : Nat → List Int32} (h : a1 118 = a 118) : (gDm K n dk (z, gB i1 a1) m).1 = (gDm K n dk (z, gB i a) m).1 := (gDm_rl (gB_rp h) m).1
theorem gB_dmF {i i1 : Nat → Int32} {a a1 : Nat → List Int32} (h : a1 118 = a 118) : dF one (gDm K n dk (z, gB i1 a1) m).2 = dF one (gDm K n dk (z, gB i a) m).2 := by
  obtain ⟨_, e1, e2⟩ := gDm_rl (K := K) (n := n) (dk := dk) (gB_rp (z := z) h) m
  unfold dF
  rw [e1, e2, Int32.add_zero]
theorem gDr_gDc (hB : B.1 = N) (hR : R.1 = N) (lB : B.2.2.2.2.1 = 0) (lR : R.2.2.2.2.1 = 0) : ∀ y : Nat, (gDr K n dk m one N z R y).2.1 = (gDc K n dk m one B z y).2 ∧ (gDr K n dk m one N z R y).2.2.1 = N ∧ (one.toInt = -1 → (gDr K n dk m one N z R y).2.2.2.2.2.2.1 = (gDc K n dk m one B z y).1) ∧ (¬ (one.toInt = -1) → (gDr K n dk m one N z R y).1 = (gDc K n dk m one B z y).1)
  | 0 => ⟨rfl, hR, fun _ => lR, fun _ => rfl⟩
  | y + 1 => by
    obtain ⟨i1, i2, i3, i4⟩ := gDr_gDc hB hR lB lR y
    have e : dRp (gDr K n dk m one N z R y).2.2.2.2.2.2.1 (gDr K n dk m one N z R y).2 ((gDc K n dk m one B z y).2, B) := ⟨i1, i2.trans hB.symm, by
      show (gDr K n dk m one N z R y).2.2.2.2.2.2.1 = B.2.2.2.2.1 + (gDr K n dk m one N z R y).2.2.2.2.2.2.1
      rw [lB, Int32.zero_add]⟩
    obtain ⟨d1, d2, d3⟩ := gDm_rl (K := K) (n := n) (dk := dk) e m
    refine ⟨d1, rfl, fun h => ?_, fun h => ?_⟩
    · show (gDm K n dk (gDr K n dk m one N z R y).2 m).2.2.2.2.2.1 = (gDc K n dk m one B z y).1 + dF one (gDm K n dk ((gDc K n dk m one B z y).2, B) m).2
      rw [d3, i3 h, Int32.add_comm]
      unfold dF
      rw [if_pos h]
    · show (if one.toInt = -1 then _ else (gDr K n dk m one N z R y).1 + (gDm K n dk (gDr K n dk m one N z R y).2 m).2.1.getD one.toNatClampNeg 0) = (gDc K n dk m one B z y).1 + dF one (gDm K n dk ((gDc K n dk m one B z y).2, B) m).2
      unfold dF
      rw [if_neg h, if_neg h, i4 h, d2]
theorem gDc_none (h : one.toInt = -1) (lB : B.2.2.2.2.1 = 0) : ∀ y : Nat, (gDc K n dk 0 one B z y).1 = 0
  | 0 => rfl
  | y + 1 => by
    show (gDc K n dk 0 one B z y).1 + dF one B = 0
    unfold dF
    rw [if_pos h, gDc_none h lB y, lB]
    rfl
theorem fD_same {y : Nat} (hB : B.1 = N) (hR : R.1 = N) (lB : B.2.2.2.2.1 = 0) (lR : R.2.2.2.2.1 = 0) (ok : n.toInt ≤ 0 → x3.toInt = -1) (f : u1 = (gDc K n dk (gM n cm) x3 B x1 y).1) (f1 : dV n x3 u2 (gDr K n dk cm.toInt.toNat x3 N x1 R) y) : u1 = u2 := by
  by_cases c : 0 < n.toInt
  · have e := f1.1 c
    rw [f, e, show gM n cm = cm.toInt.toNat from if_pos c]
    obtain ⟨_, _, i3, i4⟩ := gDr_gDc hB hR lB lR y (K := K) (n := n) (dk := dk) (m := cm.toInt.toNat) (one := x3) (z := x1)
    by_cases h : x3.toInt = -1
    · rw [if_pos h]
      exact (i3 h).symm
    · rw [if_neg h]
      exact (i4 h).symm
  · rw [f, f1.2 (by omega), show gM n cm = 0 from if_neg c]
    exact gDc_none (ok (by omega)) lB y
end DW
