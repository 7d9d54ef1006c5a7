/-! LINES: what was read, as parts; how class and reference hold it -/
abbrev kLn : Type := Option (List Int32) × List Int32
def cLy (st wi : List Int32) : Nat → List kLn → Nat → Prop
  | p, [], e => p = e
  | p, (none, d) :: r, e => cAt st wi p d ∧ (st.getD (p + d.length) 0).toInt = 2 ∧ cLy st wi (p + d.length + 1) r e
  | p, (some a, d) :: r, e => cAt st wi p a ∧ (st.getD (p + a.length) 0).toInt = 3 ∧ (wi.getD (p + a.length) 0).toInt = ((p + a.length + 1 + d.length + 1 : Nat) : Int) ∧ cAt st wi (p + a.length + 1) d ∧ (st.getD (p + a.length + 1 + d.length) 0).toInt = 2 ∧ cLy st wi (p + a.length + 1 + d.length + 1) r e
def rLy (A Y E L : List Int32) : Nat → Nat → List kLn → Nat → Nat → Prop
  | j, c, [], k, e => j = k ∧ c = e
  | j, c, (none, d) :: r, k, e => ((A.getD j 0).toInt = (c : Int) ∧ (Y.getD j 0).toInt = (c : Int) ∧ (E.getD j 0).toInt = ((c + d.length : Nat) : Int)) ∧ rAt L c d ∧ rLy A Y E L (j + 1) (c + d.length) r k e
  | j, c, (some a, d) :: r, k, e => ((A.getD j 0).toInt = (c : Int) ∧ (Y.getD j 0).toInt = ((c + a.length : Nat) : Int) ∧ (E.getD j 0).toInt = ((c + a.length + d.length : Nat) : Int)) ∧ rAt L c a ∧ rAt L (c + a.length) d ∧ rLy A Y E L (j + 1) (c + a.length + d.length) r k e
def okLn (l : kLn) : Prop := dHt l.2 0 = some 1 ∧ ∀ a, l.1 = some a → dHt a 0 = some 1
theorem cLy_congr {st wi st1 wi1 : List Int32} : ∀ (l : List kLn) (p e : Nat), (∀ j : Nat, j < e → st1.getD j 0 = st.getD j 0 ∧ wi1.getD j 0 = wi.getD j 0) → cLy st wi p l e → cLy st1 wi1 p l e ∧ p ≤ e
  | [], p, e, _, h => ⟨h, Nat.le_of_eq h⟩
  | (none, d) :: r, p, e, g, h => by
    obtain ⟨h1, h2, h3⟩ := h
    obtain ⟨i1, i2⟩ := cLy_congr r _ _ g h3
    refine ⟨⟨fun j hj => ?_, ?_, i1⟩, by omega⟩
    · rw [(g (p + j) (by omega)).1, (g (p + j) (by omega)).2]; exact h1 j hj
    · rw [(g (p + d.length) (by omega)).1]; exact h2
  | (some a, d) :: r, p, e, g, h => by
    obtain ⟨h1, h2, h3, h4, h5, h6⟩ := h
    obtain ⟨i1, i2⟩ := cLy_congr r _ _ g h6
    refine ⟨⟨fun j hj => ?_, ?_, ?_, fun j hj => ?_, ?_, i1⟩, by omega⟩
    · rw [(g (p + j) (by omega)).1, (g (p + j) (by omega)).2]; exact h1 j hj
    · rw [(g (p + a.length) (by omega)).1]; exact h2
    · rw [(g (p + a.length) (by omega)).2]; exact h3
    · rw [(g (p + a.length + 1 + j) (by omega)).1, (g (p + a.length + 1 + j) (by omega)).2]; exact h4 j hj
    · rw [(g (p + a.length + 1 + d.length) (by omega)).1]; exact h5
theorem cLy_snoc {st wi : List Int32} {x : kLn} {e e2 : Nat} : ∀ (l : List kLn) (p : Nat), cLy st wi p l e → cLy st wi e [x] e2 → cLy st wi p (l ++ [x]) e2
  | [], p, h, g => by
    have h : p = e := h
    subst h
    exact g
  | (none, d) :: r, p, h, g => ⟨h.1, h.2.1, cLy_snoc r _ h.2.2 g⟩
  | (some a, d) :: r, p, h, g => ⟨h.1, h.2.1, h.2.2.1, h.2.2.2.1, h.2.2.2.2.1, cLy_snoc r _ h.2.2.2.2.2 g⟩
theorem rLy_congr {A Y E L A1 Y1 E1 L1 : List Int32} : ∀ (l : List kLn) (j c k e : Nat), (∀ m : Nat, m < k → A1.getD m 0 = A.getD m 0 ∧ Y1.getD m 0 = Y.getD m 0 ∧ E1.getD m 0 = E.getD m 0) → (∀ m : Nat, m < e → L1.getD m 0 = L.getD m 0) → rLy A Y E L j c l k e → rLy A1 Y1 E1 L1 j c l k e ∧ j ≤ k ∧ c ≤ e
  | [], j, c, k, e, _, _, h => ⟨h, Nat.le_of_eq h.1, Nat.le_of_eq h.2⟩
  | (none, d) :: r, j, c, k, e, g, gl, h => by
    obtain ⟨⟨h1, h2, h3⟩, h4, h5⟩ := h
    obtain ⟨i1, i2, i3⟩ := rLy_congr r _ _ _ _ g gl h5
    obtain ⟨g1, g2, g3⟩ := g j (by omega)
    refine ⟨⟨⟨by rw [g1]; exact h1, by rw [g2]; exact h2, by rw [g3]; exact h3⟩, fun m hm => ?_, i1⟩, by omega, by omega⟩
    rw [gl _ (by omega)]; exact h4 m hm
  | (some a, d) :: r, j, c, k, e, g, gl, h => by
    obtain ⟨⟨h1, h2, h3⟩, h4, h5, h6⟩ := h
    obtain ⟨i1, i2, i3⟩ := rLy_congr r _ _ _ _ g gl h6
    obtain ⟨g1, g2, g3⟩ := g j (by omega)
    refine ⟨⟨⟨by rw [g1]; exact h1, by rw [g2]; exact h2, by rw [g3]; exact h3⟩, fun m hm => ?_, fun m hm => ?_, i1⟩, by omega, by omega⟩
    · rw [gl _ (by omega)]; exact h4 m hm
    · rw [gl _ (by omega)]; exact h5 m hm
theorem rLy_snoc {A Y E L : List Int32} {x : kLn} {k e k2 e2 : Nat} : ∀ (l : List kLn) (j c : Nat), rLy A Y E L j c l k e → rLy A Y E L k e [x] k2 e2 → rLy A Y E L j c (l ++ [x]) k2 e2
  | [], j, c, h, g => by
    obtain ⟨h1, h2⟩ := h
    subst h1
    subst h2
    exact g
  | (none, d) :: r, j, c, h, g => ⟨h.1, h.2.1, rLy_snoc r _ _ h.2.2 g⟩
  | (some a, d) :: r, j, c, h, g => ⟨h.1, h.2.1, h.2.2.1, rLy_snoc r _ _ h.2.2.2 g⟩
/-- lines read alike: what stands there, and that code isn't more than was read, but for one step -/
def sL (n : Int32) (S : cS) (Z : rL) (l : List kLn) : Prop := S.1 = Z.1.1 ∧ S.2.1.toInt = 0 ∧ (0 ≤ S.1.toInt ∧ S.1.toInt ≤ n.toInt) ∧ (0 ≤ S.2.2.2.2.toInt ∧ S.2.2.2.2.toInt ≤ S.1.toInt + 1) ∧ (0 ≤ Z.1.2.1.toInt ∧ Z.1.2.1.toInt ≤ S.1.toInt) ∧ (S.2.2.1.length = 121 ∧ S.2.2.2.1.length = 121 ∧ Z.1.2.2.length = 200) ∧ (Z.2.2.1.length = 61 ∧ Z.2.2.2.1.length = 61 ∧ Z.2.2.2.2.length = 61) ∧ (0 ≤ Z.2.1.toInt ∧ 2 * Z.2.1.toInt ≤ S.1.toInt + 1) ∧ cLy S.2.2.1 S.2.2.2.1 0 l S.2.2.2.2.toInt.toNat ∧ rLy Z.2.2.1 Z.2.2.2.1 Z.2.2.2.2 Z.1.2.2 0 0 l Z.2.1.toInt.toNat Z.1.2.1.toInt.toNat ∧ ∀ x ∈ l, okLn x
def sLR (n : Int32) (S : cS) (X : Int32 × rL) : Prop := (X.1.toInt = 0 ∧ sB S X.2.1) ∨ (¬ (X.1.toInt = 0) ∧ ∃ l, sL n S X.2 l)
theorem sSet {l : List Int32} {x v : Int32} (hl : l.length = 61) (h0 : 0 ≤ x.toInt) (h1 : x.toInt ≤ 60) : (l.set x.toNatClampNeg v).length = 61 ∧ (l.set x.toNatClampNeg v).getD x.toInt.toNat 0 = v ∧ ∀ m : Nat, m < x.toInt.toNat → (l.set x.toNatClampNeg v).getD m 0 = l.getD m 0 := by
  have t := Int32.toNat_toInt x
  refine ⟨by simpa using hl, ?_, fun m hm => ?_⟩
  · rw [gD_set (by omega), if_pos (by omega)]
  · rw [gD_set (by omega), if_neg (by omega)]
section SLN
variable {t : List Int32} {n : Int32}
set_option maxHeartbeats 8000000 in
theorem sim_lin {S : cS} {Z : rL} {l : List kLn} (hn : n.toInt ≤ 120) (h : sL n S Z l) (hlen : S.2.2.2.2.toInt ≤ S.1.toInt) (hnl : 2 * Z.2.1.toInt ≤ S.1.toInt) : sLR n (cLin t n S) (rLin t n Z) ∧ (¬ ((rLin t n Z).1.toInt = 0) → S.1.toInt < (cLin t n S).1.toInt) := by
  obtain ⟨h1, h2, h3, h4, h5, ⟨h6, h7, h8⟩, ⟨h9, h10, h11⟩, h12, hc, hr, hok⟩ := h
  have k0 : (0 : Int32).toInt = 0 := by decide
  have k1 : (1 : Int32).toInt = 1 := by decide
  have k2 : (2 : Int32).toInt = 2 := by decide
  have k3 : (3 : Int32).toInt = 3 := by decide
  have k63 : (63 : Int32).toInt = 63 := by decide
  have km : (-1 : Int32).toInt = -1 := by decide
  have hS : sI n S Z.1 := ⟨h1, h2, h3, ⟨h4.1, hlen⟩, h5, h6, h7, h8⟩
  have tn := Int32.toNat_toInt Z.2.1
  unfold cLin rLin
  have hsim := sim_E (t := t) hn 6 S Z.1 hS
  generalize hT : cE t n 6 S = T at *
  generalize hY : rE t n 6 Z.1 = Y at *
  rcases hsim with ⟨hz, hb⟩ | ⟨hnz, d, hg⟩
  · rw [if_pos hz, cTk_f (by rw [cHr_1 hb.2]; omega), if_pos k0]
    exact ⟨Or.inl ⟨k0, hb⟩, fun z => absurd k0 z⟩
  · rw [if_neg hnz]
    obtain ⟨b1, b2, b3, b4, b5, b6⟩ := hg
    have hx := sI_hr (t := t) b1
    have lc := b4.2.2.1
    have lr := b5.2.1
    obtain ⟨q1, q2, q3, q4, q5, q6, q7, q8⟩ := b1
    obtain ⟨sa1, sa2, sa3⟩ := sSet (v := Z.1.2.1) h9 h12.1 (by omega)
    have sget : (Z.2.2.1.set Z.2.1.toNatClampNeg Z.1.2.1).getD Z.2.1.toNatClampNeg 0 = Z.1.2.1 := by
      have sb := sa2
      rw [tn] at sb
      exact sb
    have enl : (Z.2.1 + 1).toInt = Z.2.1.toInt + 1 := by rw [kd_add (by omega) (by omega), k1]
    rw [sget]
    unfold rLn1
    by_cases h63 : (cHr t n T.1 T.2.1).toInt = (63 : Int32).toInt
    · -- a line with a question
      have hp := (cHr_at (by rw [h63]; omega)).2
      have ep := kp1 q3.1 hp
      rw [cTk_t h63, rTk_t (by rw [hx]; exact h63)]
      dsimp only
      rw [if_neg (by omega), if_neg (by omega)]
      unfold cLin2
      have tl := Int32.toNat_toInt T.2.2.2.2
      have e1 : (cAdd 3 0 (cAt1 T)).2.2 = (T.2.2.1.set T.2.2.2.2.toNatClampNeg 3, T.2.2.2.1.set T.2.2.2.2.toNatClampNeg 0, T.2.2.2.2 + 1) := if_pos (by show T.2.2.2.2.toInt ≤ 120; omega)
      have el : (T.2.2.2.2 + 1).toInt = T.2.2.2.2.toInt + 1 := by rw [kd_add (by omega) (by omega), k1]
      have hS2 : sI n (cAdd 3 0 (cAt1 T)) (rAt1 Y.2) := by
        refine ⟨?_, q2, ⟨?_, ?_⟩, ⟨?_, ?_⟩, ⟨q5.1, ?_⟩, ?_, ?_, q8⟩
        · show T.1 + 1 = Y.2.1 + 1
          rw [q1]
        · show 0 ≤ (T.1 + 1).toInt; omega
        · show (T.1 + 1).toInt ≤ n.toInt; omega
        · rw [e1]; show 0 ≤ (T.2.2.2.2 + 1).toInt; omega
        · rw [e1]; show (T.2.2.2.2 + 1).toInt ≤ (T.1 + 1).toInt; omega
        · show Y.2.2.1.toInt ≤ (T.1 + 1).toInt; omega
        · rw [e1]; simpa using q6
        · rw [e1]; simpa using q7
      generalize hS2e : cAdd 3 0 (cAt1 T) = S2 at *
      have e1a : S2.2.2.1 = T.2.2.1.set T.2.2.2.2.toNatClampNeg 3 := congrArg (fun z => z.1) e1
      have e1b : S2.2.2.2.1 = T.2.2.2.1.set T.2.2.2.2.toNatClampNeg 0 := congrArg (fun z => z.2.1) e1
      have e1c : S2.2.2.2.2 = T.2.2.2.2 + 1 := congrArg (fun z => z.2.2) e1
      have e1i : S2.2.2.2.2.toInt = T.2.2.2.2.toInt + 1 := by rw [e1c]; exact el
      have e1p : S2.1.toInt = T.1.toInt + 1 := by rw [← ep, ← hS2e]; rfl
      have hsim2 := sim_E (t := t) hn 6 S2 (rAt1 Y.2) hS2
      generalize hU : cE t n 6 S2 = U at *
      generalize hV : rE t n 6 (rAt1 Y.2) = V at *
      rcases hsim2 with ⟨hz, hb⟩ | ⟨hnz2, d2, hg2⟩
      · unfold rLn2
        rw [if_pos hz]
        exact ⟨Or.inl ⟨k0, hb⟩, fun z => absurd k0 z⟩
      · unfold rLn2
        rw [if_neg hnz2]
        obtain ⟨c1, c2, c3, c4, c5, c6⟩ := hg2
        have lc2 := c4.2.2.1
        have lr2 := c5.2.1
        have c4c := c4.2.2.2.1
        have c4d := c4.2.2.2.2
        have c5c := c5.2.2.1
        have c5d := c5.2.2.2
        have hYv : (rAt1 Y.2).2 = Y.2.2 := rfl
        rw [hYv] at lr2 c5c c5d
        obtain ⟨p1, p2, p3, p4, p5, p6, p7, p8⟩ := c1
        have ul := Int32.toNat_toInt U.2.2.2.2
        have f1 : (cAdd 2 0 U).2.2 = (U.2.2.1.set U.2.2.2.2.toNatClampNeg 2, U.2.2.2.1.set U.2.2.2.2.toNatClampNeg 0, U.2.2.2.2 + 1) := if_pos (by show U.2.2.2.2.toInt ≤ 120; omega)
        have fl : (U.2.2.2.2 + 1).toInt = U.2.2.2.2.toInt + 1 := by rw [kd_add (by omega) (by omega), k1]
        have epl : (S2.2.2.2.2 - 1).toInt = T.2.2.2.2.toInt := by rw [e1c, kd_sub (by omega) (by omega), k1]; omega
        have tp := Int32.toNat_toInt (S2.2.2.2.2 - 1)
        have g1 : (cAim (S2.2.2.2.2 - 1) (cAdd 2 0 U)).2.2 = (U.2.2.1.set U.2.2.2.2.toNatClampNeg 2, (U.2.2.2.1.set U.2.2.2.2.toNatClampNeg 0).set (S2.2.2.2.2 - 1).toNatClampNeg (U.2.2.2.2 + 1), U.2.2.2.2 + 1) := by
          show lAim (S2.2.2.2.2 - 1) (cAdd 2 0 U).2.2 = _
          rw [f1]
          exact if_pos ⟨by omega, by show (S2.2.2.2.2 - 1).toInt < (U.2.2.2.2 + 1).toInt; omega⟩
        have gp : (cAim (S2.2.2.2.2 - 1) (cAdd 2 0 U)).1 = U.1 := rfl
        have gf : (cAim (S2.2.2.2.2 - 1) (cAdd 2 0 U)).2.1 = U.2.1 := rfl
        generalize hW : cAim (S2.2.2.2.2 - 1) (cAdd 2 0 U) = W at *
        have g1a : W.2.2.1 = U.2.2.1.set U.2.2.2.2.toNatClampNeg 2 := congrArg (fun z => z.1) g1
        have g1b : W.2.2.2.1 = (U.2.2.2.1.set U.2.2.2.2.toNatClampNeg 0).set (S2.2.2.2.2 - 1).toNatClampNeg (U.2.2.2.2 + 1) := congrArg (fun z => z.2.1) g1
        have g1c : W.2.2.2.2 = U.2.2.2.2 + 1 := congrArg (fun z => z.2.2) g1
        obtain ⟨sy1, sy2, sy3⟩ := sSet (v := Z.1.2.1) h10 h12.1 (by omega)
        obtain ⟨sz1, sz2, sz3⟩ := sSet (v := (rAt1 Y.2).2.1) sy1 h12.1 (by omega)
        obtain ⟨se1, se2, se3⟩ := sSet (v := V.2.2.1) h11 h12.1 (by omega)
        refine ⟨Or.inr ⟨by show ¬ ((1 : Int32).toInt = 0); omega, l ++ [(some d, d2)], ?_⟩, fun _ => by rw [gp]; omega⟩
        have st1 : ∀ j : Nat, (j : Int) < U.2.2.2.2.toInt → W.2.2.1.getD j 0 = U.2.2.1.getD j 0 := fun j hj => by rw [g1a, gD_set (by omega), if_neg (by omega)]
        have wi1 : ∀ j : Nat, (j : Int) < U.2.2.2.2.toInt → j ≠ (S2.2.2.2.2 - 1).toNatClampNeg → W.2.2.2.1.getD j 0 = U.2.2.2.1.getD j 0 := fun j hj hne => by
          rw [g1b, gD_set (by simpa using (by omega : (S2.2.2.2.2 - 1).toNatClampNeg < U.2.2.2.1.length)), if_neg hne, gD_set (by omega), if_neg (by omega)]
        have s2t : ∀ j : Nat, (j : Int) < T.2.2.2.2.toInt → S2.2.2.1.getD j 0 = T.2.2.1.getD j 0 ∧ S2.2.2.2.1.getD j 0 = T.2.2.2.1.getD j 0 := fun j hj => by
          rw [e1a, e1b, gD_set (by omega), gD_set (by omega), if_neg (by omega), if_neg (by omega)]
          exact ⟨rfl, rfl⟩
        have all : ∀ j : Nat, (j : Int) < T.2.2.2.2.toInt → W.2.2.1.getD j 0 = T.2.2.1.getD j 0 ∧ W.2.2.2.1.getD j 0 = T.2.2.2.1.getD j 0 := fun j hj => by
          have a := c4c j (by omega)
          have b := s2t j hj
          exact ⟨(st1 j (by omega)).trans (a.1.trans b.1), (wi1 j (by omega) (by omega)).trans (a.2.trans b.2)⟩
        refine ⟨by show W.1 = _; rw [gp]; exact p1, by rw [gf]; exact p2, by rw [gp]; exact p3, ?_, ?_, ⟨?_, ?_, p8⟩, ⟨sa1, sz1, se1⟩, ⟨by show 0 ≤ (Z.2.1 + 1).toInt; omega, by show 2 * (Z.2.1 + 1).toInt ≤ W.1.toInt + 1; rw [gp]; omega⟩, ?_, ?_, ?_⟩
        · rw [g1c, gp]; omega
        · rw [gp]; exact p5
        · rw [g1a]; simpa using p6
        · rw [g1b]; simpa using p7
        · refine cLy_snoc l 0 (cLy_congr l 0 S.2.2.2.2.toInt.toNat (fun j hj => ?_) hc).1 ?_
          · have a := all j (by omega)
            have b := b4.2.2.2.1 j (by omega)
            exact ⟨a.1.trans b.1, a.2.trans b.2⟩
          · refine ⟨fun j hj => ?_, ?_, ?_, fun j hj => ?_, ?_, ?_⟩
            · have a := all (S.2.2.2.2.toInt.toNat + j) (by omega)
              have b := b4.2.2.2.2 j hj
              exact ⟨by rw [a.1]; exact b.1, by rw [a.2]; exact b.2⟩
            · have e : S.2.2.2.2.toInt.toNat + d.length = T.2.2.2.2.toNatClampNeg := by omega
              rw [e, st1 _ (by omega), (c4c _ (by omega)).1, e1a, gD_set (by omega), if_pos rfl]
              exact k3
            · have e : S.2.2.2.2.toInt.toNat + d.length = (S2.2.2.2.2 - 1).toNatClampNeg := by omega
              rw [g1b, e, gD_set (by simpa using (by omega : (S2.2.2.2.2 - 1).toNatClampNeg < U.2.2.2.1.length)), if_pos rfl]
              omega
            · have a1 := st1 (S.2.2.2.2.toInt.toNat + d.length + 1 + j) (by omega)
              have a2 := wi1 (S.2.2.2.2.toInt.toNat + d.length + 1 + j) (by omega) (by omega)
              have b := c4d j hj
              rw [show S2.2.2.2.2.toInt.toNat + j = S.2.2.2.2.toInt.toNat + d.length + 1 + j by rw [e1c]; omega] at b
              exact ⟨by rw [a1]; exact b.1, by rw [a2]; exact b.2⟩
            · have e : S.2.2.2.2.toInt.toNat + d.length + 1 + d2.length = U.2.2.2.2.toNatClampNeg := by rw [e1c] at lc2; omega
              rw [e, g1a, gD_set (by omega), if_pos rfl]
              exact k2
            · show S.2.2.2.2.toInt.toNat + d.length + 1 + d2.length + 1 = W.2.2.2.2.toInt.toNat
              rw [g1c]
              rw [e1c] at lc2
              omega
        · refine rLy_snoc l 0 0 (rLy_congr l 0 0 Z.2.1.toInt.toNat Z.1.2.1.toInt.toNat (fun m hm => ⟨sa3 m hm, (sz3 m hm).trans (sy3 m hm), se3 m hm⟩) (fun m hm => ?_) hr).1 ?_
          · exact (c5c m (by omega)).trans (b5.2.2.1 m (by omega))
          · refine ⟨⟨?_, ?_, ?_⟩, fun j hj => ?_, fun j hj => ?_, ?_, ?_⟩
            · rw [sa2]; omega
            · rw [sz2]; show Y.2.2.1.toInt = _; omega
            · rw [se2]; omega
            · exact (c5c _ (by omega)).trans (b5.2.2.2 j hj)
            · have b := c5d j hj
              rw [show Y.2.2.1.toInt.toNat + j = Z.1.2.1.toInt.toNat + d.length + j by omega] at b
              exact b
            · show Z.2.1.toInt.toNat + 1 = (Z.2.1 + 1).toInt.toNat
              omega
            · show Z.1.2.1.toInt.toNat + d.length + d2.length = V.2.2.1.toInt.toNat
              omega
        · intro x hx
          rcases List.mem_append.mp hx with hx | hx
          · exact hok x hx
          · have hx := List.mem_singleton.mp hx
            subst hx
            exact ⟨c6, fun a ha => by cases ha; exact b6⟩
    · -- a line without
      rw [cTk_f h63, rTk_f (by rw [hx]; exact h63)]
      dsimp only
      rw [if_pos k0, if_pos k0]
      unfold rLn2
      rw [if_neg (by show ¬ ((1 : Int32).toInt = 0); omega)]
      have tl := Int32.toNat_toInt T.2.2.2.2
      have e1 : (cAdd 2 0 T).2.2 = (T.2.2.1.set T.2.2.2.2.toNatClampNeg 2, T.2.2.2.1.set T.2.2.2.2.toNatClampNeg 0, T.2.2.2.2 + 1) := if_pos (by show T.2.2.2.2.toInt ≤ 120; omega)
      have el : (T.2.2.2.2 + 1).toInt = T.2.2.2.2.toInt + 1 := by rw [kd_add (by omega) (by omega), k1]
      have gp : (cAdd 2 0 T).1 = T.1 := rfl
      have gf : (cAdd 2 0 T).2.1 = T.2.1 := rfl
      generalize hW : cAdd 2 0 T = W at *
      have g1a : W.2.2.1 = T.2.2.1.set T.2.2.2.2.toNatClampNeg 2 := congrArg (fun z => z.1) e1
      have g1b : W.2.2.2.1 = T.2.2.2.1.set T.2.2.2.2.toNatClampNeg 0 := congrArg (fun z => z.2.1) e1
      have g1c : W.2.2.2.2 = T.2.2.2.2 + 1 := congrArg (fun z => z.2.2) e1
      obtain ⟨sy1, sy2, sy3⟩ := sSet (v := Z.1.2.1) h10 h12.1 (by omega)
      obtain ⟨se1, se2, se3⟩ := sSet (v := Y.2.2.1) h11 h12.1 (by omega)
      have all : ∀ j : Nat, (j : Int) < T.2.2.2.2.toInt → W.2.2.1.getD j 0 = T.2.2.1.getD j 0 ∧ W.2.2.2.1.getD j 0 = T.2.2.2.1.getD j 0 := fun j hj => by
        rw [g1a, g1b, gD_set (by omega), gD_set (by omega), if_neg (by omega), if_neg (by omega)]
        exact ⟨rfl, rfl⟩
      refine ⟨Or.inr ⟨by show ¬ ((1 : Int32).toInt = 0); omega, l ++ [(none, d)], ?_⟩, fun _ => by rw [gp]; exact b3⟩
      refine ⟨by rw [gp]; exact q1, by rw [gf]; exact q2, by rw [gp]; exact q3, ?_, by rw [gp]; exact q5, ⟨?_, ?_, q8⟩, ⟨sa1, sy1, se1⟩, ⟨by show 0 ≤ (Z.2.1 + 1).toInt; omega, by show 2 * (Z.2.1 + 1).toInt ≤ W.1.toInt + 1; rw [gp]; omega⟩, ?_, ?_, ?_⟩
      · rw [g1c, gp]; omega
      · rw [g1a]; simpa using q6
      · rw [g1b]; simpa using q7
      · refine cLy_snoc l 0 (cLy_congr l 0 S.2.2.2.2.toInt.toNat (fun j hj => ?_) hc).1 ?_
        · have a := all j (by omega)
          have b := b4.2.2.2.1 j (by omega)
          exact ⟨a.1.trans b.1, a.2.trans b.2⟩
        · refine ⟨fun j hj => ?_, ?_, ?_⟩
          · have a := all (S.2.2.2.2.toInt.toNat + j) (by omega)
            have b := b4.2.2.2.2 j hj
            exact ⟨by rw [a.1]; exact b.1, by rw [a.2]; exact b.2⟩
          · have e : S.2.2.2.2.toInt.toNat + d.length = T.2.2.2.2.toNatClampNeg := by omega
            rw [e, g1a, gD_set (by omega), if_pos rfl]
            exact k2
          · show S.2.2.2.2.toInt.toNat + d.length + 1 = W.2.2.2.2.toInt.toNat
            rw [g1c]
            omega
      · refine rLy_snoc l 0 0 (rLy_congr l 0 0 Z.2.1.toInt.toNat Z.1.2.1.toInt.toNat (fun m hm => ⟨sa3 m hm, sy3 m hm, se3 m hm⟩) (fun m hm => b5.2.2.1 m (by omega)) hr).1 ?_
        refine ⟨⟨?_, ?_, ?_⟩, b5.2.2.2, ?_, ?_⟩
        · rw [sa2]; omega
        · rw [sy2]; omega
        · rw [se2]; omega
        · show Z.2.1.toInt.toNat + 1 = (Z.2.1 + 1).toInt.toNat
          omega
        · show Z.1.2.1.toInt.toNat + d.length = Y.2.2.1.toInt.toNat
          omega
      · intro x hx
        rcases List.mem_append.mp hx with hx | hx
        · exact hok x hx
        · have hx := List.mem_singleton.mp hx
          subst hx
          exact ⟨b6, fun a ha => by cases ha⟩
theorem sim_lpl (hn : n.toInt ≤ 120) (k : Nat) : ∀ (k' : Nat) (S : cS) (X : Int32 × rL), sLR n S X → (¬ (X.1.toInt = 0) → (n.toInt - S.1.toInt).toNat ≤ k ∧ (n.toInt - S.1.toInt).toNat ≤ k') → sLR n (cLpL t n k S) (rLpL t n k' X) := by
  have k0 : (0 : Int32).toInt = 0 := by decide
  have k59 : (59 : Int32).toInt = 59 := by decide
  have km : (-1 : Int32).toInt = -1 := by decide
  have bad : ∀ (k : Nat) (S : cS), S.2.1.toInt ≠ 0 → cLpL t n k S = S := fun k S hb => by
    cases k with
    | zero => rfl
    | succ k =>
      have e1 : cLpL t n (k + 1) S = (if (cTk t n 59 S).1.toInt = 0 then (cTk t n 59 S).2 else cLpL t n k (cLin t n (cTk t n 59 S).2)) := rfl
      rw [e1, cTk_f (by rw [cHr_1 hb]; omega)]
      exact if_pos k0
  have badr : ∀ (k : Nat) (X : Int32 × rL), X.1.toInt = 0 → rLpL t n k X = X := fun k X hz => by
    cases k with
    | zero => rfl
    | succ k => exact if_pos hz
  have out : ∀ (k k' : Nat) (S : cS) (X : Int32 × rL) (l : List kLn), ¬ (X.1.toInt = 0) → sL n S X.2 l → ¬ ((cHr t n S.1 S.2.1).toInt = (59 : Int32).toInt) → cLpL t n k S = S ∧ rLpL t n k' X = X := fun k k' S X l hz hl hne => by
    have hx : rHr t n X.2.1 = cHr t n S.1 S.2.1 := by
      unfold rHr
      rw [← hl.1]
      exact (cHr_0 hl.2.1).symm
    refine ⟨?_, ?_⟩
    · cases k with
      | zero => rfl
      | succ k =>
        have e1 : cLpL t n (k + 1) S = (if (cTk t n 59 S).1.toInt = 0 then (cTk t n 59 S).2 else cLpL t n k (cLin t n (cTk t n 59 S).2)) := rfl
        rw [e1, cTk_f hne]
        exact if_pos k0
    · cases k' with
      | zero => rfl
      | succ k' =>
        have e1 : rLpL t n (k' + 1) X = (if X.1.toInt = 0 then X else if (rTk t n 59 X.2.1).1.toInt = 0 then (X.1, ((rTk t n 59 X.2.1).2, X.2.2)) else rLpL t n k' (rLin t n ((rTk t n 59 X.2.1).2, X.2.2))) := rfl
        rw [e1, if_neg hz, rTk_f (by rw [hx]; exact hne)]
        exact if_pos k0
  induction k with
  | zero =>
    intro k' S X h hk
    rcases h with ⟨hz, hb⟩ | ⟨hz, l, hl⟩
    · rw [badr k' X hz]; exact Or.inl ⟨hz, hb⟩
    · have hne : ¬ ((cHr t n S.1 S.2.1).toInt = (59 : Int32).toInt) := fun e => by
        have := (cHr_at (by rw [e]; omega)).2
        have := (hk hz).1
        omega
      obtain ⟨a, b⟩ := out 0 k' S X l hz hl hne
      rw [a, b]
      exact Or.inr ⟨hz, l, hl⟩
  | succ k ih =>
    intro k' S X h hk
    rcases h with ⟨hz, hb⟩ | ⟨hz, l, hl⟩
    · rw [badr k' X hz, bad _ _ hb.2]; exact Or.inl ⟨hz, hb⟩
    · by_cases e : (cHr t n S.1 S.2.1).toInt = (59 : Int32).toInt
      · have hp := (cHr_at (by rw [e]; omega)).2
        have hx : rHr t n X.2.1 = cHr t n S.1 S.2.1 := by
          unfold rHr
          rw [← hl.1]
          exact (cHr_0 hl.2.1).symm
        cases k' with
        | zero =>
          have := (hk hz).2
          omega
        | succ k' =>
          have e1 : cLpL t n (k + 1) S = (if (cTk t n 59 S).1.toInt = 0 then (cTk t n 59 S).2 else cLpL t n k (cLin t n (cTk t n 59 S).2)) := rfl
          have e2 : rLpL t n (k' + 1) X = (if X.1.toInt = 0 then X else if (rTk t n 59 X.2.1).1.toInt = 0 then (X.1, ((rTk t n 59 X.2.1).2, X.2.2)) else rLpL t n k' (rLin t n ((rTk t n 59 X.2.1).2, X.2.2))) := rfl
          rw [e1, e2, if_neg hz, cTk_t e, rTk_t (by rw [hx]; exact e), if_neg (by decide : ¬ ((1 : Int32).toInt = 0)), if_neg (by decide : ¬ ((1 : Int32).toInt = 0))]
          dsimp only
          obtain ⟨h1, h2, h3, h4, h5, h6, h7, h8, h9, h10, h11⟩ := hl
          have ep := kp1 h3.1 hp
          have hl2 : sL n (cAt1 S) (rAt1 X.2.1, X.2.2) l := ⟨by show S.1 + 1 = X.2.1.1 + 1; rw [h1], h2, ⟨by show 0 ≤ (S.1 + 1).toInt; omega, by show (S.1 + 1).toInt ≤ n.toInt; omega⟩, ⟨h4.1, by show S.2.2.2.2.toInt ≤ (S.1 + 1).toInt + 1; omega⟩, ⟨h5.1, by show X.2.1.2.1.toInt ≤ (S.1 + 1).toInt; omega⟩, h6, h7, ⟨h8.1, by show 2 * X.2.2.1.toInt ≤ (S.1 + 1).toInt + 1; omega⟩, h9, h10, h11⟩
          obtain ⟨r1, r2⟩ := sim_lin (t := t) hn hl2 (by show S.2.2.2.2.toInt ≤ (S.1 + 1).toInt; omega) (by show 2 * X.2.2.1.toInt ≤ (S.1 + 1).toInt; omega)
          refine ih k' _ _ r1 (fun z => ?_)
          have a := r2 z
          have a : (S.1 + 1).toInt < (cLin t n (cAt1 S)).1.toInt := a
          obtain ⟨b1, b2⟩ := hk hz
          omega
      · obtain ⟨a, b⟩ := out (k + 1) k' S X l hz hl e
        rw [a, b]
        exact Or.inr ⟨hz, l, hl⟩
theorem sim_txt {st wi L A Y E : List Int32} (h0 : 0 ≤ n.toInt) (hn : n.toInt ≤ 120) (l1 : st.length = 121) (l2 : wi.length = 121) (l3 : L.length = 200) (l4 : A.length = 61) (l5 : Y.length = 61) (l6 : E.length = 61) : (cTxt t n st wi).1 = (rTxt t n L A Y E).2.1.1 ∧ (cOk n (cTxt t n st wi) ↔ rOk n (rTxt t n L A Y E)) ∧ (cOk n (cTxt t n st wi) → ∃ l, sL n (cTxt t n st wi) (rTxt t n L A Y E).2 l) := by
  have k0 : (0 : Int32).toInt = 0 := by decide
  have hl : sL n (0, 0, st, wi, 0) ((0, 0, L), 0, A, Y, E) [] := by
    refine ⟨rfl, k0, ⟨?_, ?_⟩, ⟨?_, ?_⟩, ⟨?_, ?_⟩, ⟨l1, l2, l3⟩, ⟨l4, l5, l6⟩, ⟨?_, ?_⟩, rfl, ⟨rfl, rfl⟩, fun x hx => absurd hx List.not_mem_nil⟩ <;> simp only [k0] <;> omega
  obtain ⟨r1, r2⟩ := sim_lin (t := t) hn hl (by show (0 : Int32).toInt ≤ (0 : Int32).toInt; omega) (by show 2 * (0 : Int32).toInt ≤ (0 : Int32).toInt; omega)
  have r := sim_lpl (t := t) hn n.toInt.toNat n.toInt.toNat _ _ r1 (fun z => by
    have a := r2 z
    have a : (0 : Int32).toInt < _ := a
    omega)
  have r : sLR n (cTxt t n st wi) (rTxt t n L A Y E) := r
  rcases r with ⟨hz, hb⟩ | ⟨hz, l, hl⟩
  · exact ⟨hb.1, ⟨fun z => absurd z.1 hb.2, fun z => absurd hz z.1⟩, fun z => absurd z.1 hb.2⟩
  · refine ⟨hl.1, ⟨fun z => ⟨hz, ?_⟩, fun z => ⟨hl.2.1, ?_⟩⟩, fun _ => ⟨l, hl⟩⟩
    · have := hl.2.2.1.2
      have := z.2
      rw [← hl.1]
      omega
    · have := z.2
      rw [← hl.1] at this
      omega
end SLN
