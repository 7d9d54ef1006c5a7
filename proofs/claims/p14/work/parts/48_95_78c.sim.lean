section
/-! LINES: what was read, as parts; how class and reference hold it -/
abbrev kLn : Type := Option (List Int32) × List Int32
noncomputable def cLy (st wi : List Int32) : Nat → List kLn → Nat → Prop
  | p, [], e => p = e
  | p, (none, d) :: r, e => cAt st wi p d ∧ (st.getD (p + d.length) 0).toInt = 2 ∧ cLy st wi (p + d.length + 1) r e
  | p, (some a, d) :: r, e => cAt st wi p a ∧ (st.getD (p + a.length) 0).toInt = 3 ∧ (wi.getD (p + a.length) 0).toInt = ((p + a.length + 1 + d.length + 1 : Nat) : Int) ∧ cAt st wi (p + a.length + 1) d ∧ (st.getD (p + a.length + 1 + d.length) 0).toInt = 2 ∧ cLy st wi (p + a.length + 1 + d.length + 1) r e
noncomputable def rLy (A Y E L : List Int32) : Nat → Nat → List kLn → Nat → Nat → Prop
  | j, c, [], k, e => j = k ∧ c = e
  | j, c, (none, d) :: r, k, e => ((A.getD j 0).toInt = (c : Int) ∧ (Y.getD j 0).toInt = (c : Int) ∧ (E.getD j 0).toInt = ((c + d.length : Nat) : Int)) ∧ rAt L c d ∧ rLy A Y E L (j + 1) (c + d.length) r k e
  | j, c, (some a, d) :: r, k, e => ((A.getD j 0).toInt = (c : Int) ∧ (Y.getD j 0).toInt = ((c + a.length : Nat) : Int) ∧ (E.getD j 0).toInt = ((c + a.length + d.length : Nat) : Int)) ∧ rAt L c a ∧ rAt L (c + a.length) d ∧ rLy A Y E L (j + 1) (c + a.length + d.length) r k e
noncomputable def okLn (l : kLn) : Prop := dHt l.2 0 = some 1 ∧ ∀ a, l.1 = some a → dHt a 0 = some 1
theorem cLy_congr {st wi st1 wi1 : List Int32} : ∀ (l : List kLn) (p e : Nat), (∀ j : Nat, j < e → st1.getD j 0 = st.getD j 0 ∧ wi1.getD j 0 = wi.getD j 0) → cLy st wi p l e → cLy st1 wi1 p l e ∧ p ≤ e
  | [], p, e, _, h => ⟨h, Nat.le_of_eq h⟩
  | (none, d) :: r, p, e, g, h => by
    obtain ⟨h1, h2, h3⟩ := h
    obtain ⟨i1, i2⟩ := cLy_congr r _ _ g h3
    refine ⟨⟨fun j hj => ?_, ?_, i1⟩, by omega⟩
    · rw [(g (p + j) (by omega)).1, (g (p + j) (by omega)).2]; exact h1 j hj
    · rw [(g (p + d.length) (by omega)).1]; exact h2
  | (some a, d) :: r, p, e, g, h => by
    obtain ⟨h1, h2, h3, h4, h5, h6⟩ := h
    obtain ⟨i1, i2⟩ := cLy_congr r _ _ g h6
    refine ⟨⟨fun j hj => ?_, ?_, ?_, fun j hj => ?_, ?_, i1⟩, by omega⟩
    · rw [(g (p + j) (by omega)).1, (g (p + j) (by omega)).2]; exact h1 j hj
    · rw [(g (p + a.length) (by omega)).1]; exact h2
    · rw [(g (p + a.length) (by omega)).2]; exact h3
    · rw [(g (p + a.length + 1 + j) (by omega)).1, (g (p + a.length + 1 + j) (by omega)).2]; exact h4 j hj
    · rw [(g (p + a.length + 1 + d.length) (by omega)).1]; exact h5
theorem cLy_snoc {st wi : List Int32} {x : kLn} {e e2 : Nat} : ∀ (l : List kLn) (p : Nat), cLy st wi p l e → cLy st wi e [x] e2 → cLy st wi p (l ++ [x]) e2
  | [], p, h, g => by
    have h : p = e := h
    subst h
    exact g
  | (none, d) :: r, p, h, g => ⟨h.1, h.2.1, cLy_snoc r _ h.2.2 g⟩
  | (some a, d) :: r, p, h, g => ⟨h.1, h.2.1, h.2.2.1, h.2.2.2.1, h.2.2.2.2.1, cLy_snoc r _ h.2.2.2.2.2 g⟩
theorem rLy_congr {A Y E L A1 Y1 E1 L1 : List Int32} : ∀ (l : List kLn) (j c k e : Nat), (∀ m : Nat, m < k → A1.getD m 0 = A.getD m 0 ∧ Y1.getD m 0 = Y.getD m 0 ∧ E1.getD m 0 = E.getD m 0) → (∀ m : Nat, m < e → L1.getD m 0 = L.getD m 0) → rLy A Y E L j c l k e → rLy A1 Y1 E1 L1 j c l k e ∧ j ≤ k ∧ c ≤ e
  | [], j, c, k, e, _, _, h => ⟨h, Nat.le_of_eq h.1, Nat.le_of_eq h.2⟩
  | (none, d) :: r, j, c, k, e, g, gl, h => by
    obtain ⟨⟨h1, h2, h3⟩, h4, h5⟩ := h
    obtain ⟨i1, i2, i3⟩ := rLy_congr r _ _ _ _ g gl h5
    obtain ⟨g1, g2, g3⟩ := g j (by omega)
    refine ⟨⟨⟨by rw [g1]; exact h1, by rw [g2]; exact h2, by rw [g3]; exact h3⟩, fun m hm => ?_, i1⟩, by omega, by omega⟩
    rw [gl _ (by omega)]; exact h4 m hm
  | (some a, d) :: r, j, c, k, e, g, gl, h => by
    obtain ⟨⟨h1, h2, h3⟩, h4, h5, h6⟩ := h
    obtain ⟨i1, i2, i3⟩ := rLy_congr r _ _ _ _ g gl h6
    obtain ⟨g1, g2, g3⟩ := g j (by omega)
    refine ⟨⟨⟨by rw [g1]; exact h1, by rw [g2]; exact h2, by rw [g3]; exact h3⟩, fun m hm => ?_, fun m hm => ?_, i1⟩, by omega, by omega⟩
    · rw [gl _ (by omega)]; exact h4 m hm
    · rw [gl _ (by omega)]; exact h5 m hm
theorem rLy_snoc {A Y E L : List Int32} {x : kLn} {k e k2 e2 : Nat} : ∀ (l : List kLn) (j c : Nat), rLy A Y E L j c l k e → rLy A Y E L k e [x] k2 e2 → rLy A Y E L j c (l ++ [x]) k2 e2
  | [], j, c, h, g => by
    obtain ⟨h1, h2⟩ := h
    subst h1
    subst h2
    exact g
  | (none, d) :: r, j, c, h, g => ⟨h.1, h.2.1, rLy_snoc r _ _ h.2.2 g⟩
  | (some a, d) :: r, j, c, h, g => ⟨h.1, h.2.1, h.2.2.1, rLy_snoc r _ _ h.2.2.2 g⟩
/-- lines read alike: what stands there, and that code isn't more than was read, but for one step -/
noncomputable def sL (n : Int32) (S : cS) (Z : rL) (l : List kLn) : Prop := S.1 = Z.1.1 ∧ S.2.1.toInt = 0 ∧ (0 ≤ S.1.toInt ∧ S.1.toInt ≤ n.toInt) ∧ (0 ≤ S.2.2.2.2.toInt ∧ S.2.2.2.2.toInt ≤ S.1.toInt + 1) ∧ (0 ≤ Z.1.2.1.toInt ∧ Z.1.2.1.toInt ≤ S.1.toInt) ∧ (S.2.2.1.length = 121 ∧ S.2.2.2.1.length = 121 ∧ Z.1.2.2.length = 200) ∧ (Z.2.2.1.length = 61 ∧ Z.2.2.2.1.length = 61 ∧ Z.2.2.2.2.length = 61) ∧ (0 ≤ Z.2.1.toInt ∧ 2 * Z.2.1.toInt ≤ S.1.toInt + 1) ∧ cLy S.2.2.1 S.2.2.2.1 0 l S.2.2.2.2.toInt.toNat ∧ rLy Z.2.2.1 Z.2.2.2.1 Z.2.2.2.2 Z.1.2.2 0 0 l Z.2.1.toInt.toNat Z.1.2.1.toInt.toNat ∧ ∀ x ∈ l, okLn x
noncomputable def sLR (n : Int32) (S : cS) (X : Int32 × rL) : Prop := (X.1.toInt = 0 ∧ sB S X.2.1) ∨ (¬ (X.1.toInt = 0) ∧ ∃ l, sL n S X.2 l)
theorem sSet {l : List Int32} {x v : Int32} (hl : l.length = 61) (h0 : 0 ≤ x.toInt) (h1 : x.toInt ≤ 60) : (l.set x.toNatClampNeg v).length = 61 ∧ (l.set x.toNatClampNeg v).getD x.toInt.toNat 0 = v ∧ ∀ m : Nat, m < x.toInt.toNat → (l.set x.toNatClampNeg v).getD m 0 = l.getD m 0 := by
  have t := Int32.toNat_toInt x
  refine ⟨by simpa using hl, ?_, fun m hm => ?_⟩
  · rw [gD_set (by omega), if_pos (by omega)]
  · rw [gD_set (by omega), if_neg (by omega)]
section SLN
variable {t : List Int32} {n : Int32}
set_option maxHeartbeats 8000000 in
theorem sim_lin {S : cS} {Z : rL} {l : List kLn} (hn : n.toInt ≤ 120) (h : sL n S Z l) (hlen : S.2.2.2.2.toInt ≤ S.1.toInt) (hnl : 2 * Z.2.1.toInt ≤ S.1.toInt) : sLR n (cLin t n S) (rLin t n Z) ∧ (¬ ((rLin t n Z).1.toInt = 0) → S.1.toInt < (cLin t n S).1.toInt) := by
  obtain ⟨h1, h2, h3, h4, h5, ⟨h6, h7, h8⟩, ⟨h9, h10, h11⟩, h12, hc, hr, hok⟩ := h
  have k0 : (0 : Int32).toInt = 0 := by decide
  have k1 : (1 : Int32).toInt = 1 := by decide
  have k2 : (2 : Int32).toInt = 2 := by decide
  have k3 : (3 : Int32).toInt = 3 := by decide
  have k63 : (63 : Int32).toInt = 63 := by decide
  have km : (-1 : Int32).toInt = -1 := by decide
  have hS : sI n S Z.1 := ⟨h1, h2, h3, ⟨h4.1, hlen⟩, h5, h6, h7, h8⟩
  have tn := Int32.toNat_toInt Z.2.1
  unfold cLin rLin
  have hsim := sim_E (t := t) hn 6 S Z.1 hS
  generalize hT : cE t n 6 S = T at *
  generalize hY : rE t n 6 Z.1 = Y at *
  rcases hsim with ⟨hz, hb⟩ | ⟨hnz, d, hg⟩
  · rw [if_pos hz, cTk_f (by rw [cHr_1 hb.2]; omega), if_pos k0]
    exact ⟨Or.inl ⟨k0, hb⟩, fun z => absurd k0 z⟩
  · rw [if_neg hnz]
    obtain ⟨b1, b2, b3, b4, b5, b6⟩ := hg
    have hx := sI_hr (t := t) b1
    have lc := b4.2.2.1
    have lr := b5.2.1
    obtain ⟨q1, q2, q3, q4, q5, q6, q7, q8⟩ := b1
    obtain ⟨sa1, sa2, sa3⟩ := sSet (v := Z.1.2.1) h9 h12.1 (by omega)
    have sget : (Z.2.2.1.set Z.2.1.toNatClampNeg Z.1.2.1).getD Z.2.1.toNatClampNeg 0 = Z.1.2.1 := by
      have sb := sa2
      rw [tn] at sb
      exact sb
    have enl : (Z.2.1 + 1).toInt = Z.2.1.toInt + 1 := by rw [kd_add (by omega) (by omega), k1]
    rw [sget]
    unfold rLn1
    by_cases h63 : (cHr t n T.1 T.2.1).toInt = (63 : Int32).toInt
    · -- a line with a question
      have hp := (cHr_at (by rw [h63]; omega)).2
      have ep := kp1 q3.1 hp
      rw [cTk_t h63, rTk_t (by rw [hx]; exact h63)]
      dsimp only
      rw [if_neg (by omega), if_neg (by omega)]
      unfold cLin2
      have tl := Int32.toNat_toInt T.2.2.2.2
      have e1 : (cAdd 3 0 (cAt1 T)).2.2 = (T.2.2.1.set T.2.2.2.2.toNatClampNeg 3, T.2.2.2.1.set T.2.2.2.2.toNatClampNeg 0, T.2.2.2.2 + 1) := if_pos (by show T.2.2.2.2.toInt ≤ 120; omega)
      have el : (T.2.2.2.2 + 1).toInt = T.2.2.2.2.toInt + 1 := by rw [kd_add (by omega) (by omega), k1]
      have hS2 : sI n (cAdd 3 0 (cAt1 T)) (rAt1 Y.2) := by
        refine ⟨?_, q2, ⟨?_, ?_⟩, ⟨?_, ?_⟩, ⟨q5.1, ?_⟩, ?_, ?_, q8⟩
        · show T.1 + 1 = Y.2.1 + 1
          rw [q1]
        · show 0 ≤ (T.1 + 1).toInt; omega
        · show (T.1 + 1).toInt ≤ n.toInt; omega
        · rw [e1]; show 0 ≤ (T.2.2.2.2 + 1).toInt; omega
        · rw [e1]; show (T.2.2.2.2 + 1).toInt ≤ (T.1 + 1).toInt; omega
        · show Y.2.2.1.toInt ≤ (T.1 + 1).toInt; omega
        · rw [e1]; simpa using q6
        · rw [e1]; simpa using q7
      generalize hS2e : cAdd 3 0 (cAt1 T) = S2 at *
      have e1a : S2.2.2.1 = T.2.2.1.set T.2.2.2.2.toNatClampNeg 3 := congrArg (fun z => z.1) e1
      have e1b : S2.2.2.2.1 = T.2.2.2.1.set T.2.2.2.2.toNatClampNeg 0 := congrArg (fun z => z.2.1) e1
      have e1c : S2.2.2.2.2 = T.2.2.2.2 + 1 := congrArg (fun z => z.2.2) e1
      have e1i : S2.2.2.2.2.toInt = T.2.2.2.2.toInt + 1 := by rw [e1c]; exact el
      have e1p : S2.1.toInt = T.1.toInt + 1 := by rw [← ep, ← hS2e]; rfl
      have hsim2 := sim_E (t := t) hn 6 S2 (rAt1 Y.2) hS2
      generalize hU : cE t n 6 S2 = U at *
      generalize hV : rE t n 6 (rAt1 Y.2) = V at *
      rcases hsim2 with ⟨hz, hb⟩ | ⟨hnz2, d2, hg2⟩
      · unfold rLn2
        rw [if_pos hz]
        exact ⟨Or.inl ⟨k0, hb⟩, fun z => absurd k0 z⟩
      · unfold rLn2
        rw [if_neg hnz2]
        obtain ⟨c1, c2, c3, c4, c5, c6⟩ := hg2
        have lc2 := c4.2.2.1
        have lr2 := c5.2.1
        have c4c := c4.2.2.2.1
        have c4d := c4.2.2.2.2
        have c5c := c5.2.2.1
        have c5d := c5.2.2.2
        have hYv : (rAt1 Y.2).2 = Y.2.2 := rfl
        rw [hYv] at lr2 c5c c5d
        obtain ⟨p1, p2, p3, p4, p5, p6, p7, p8⟩ := c1
        have ul := Int32.toNat_toInt U.2.2.2.2
        have f1 : (cAdd 2 0 U).2.2 = (U.2.2.1.set U.2.2.2.2.toNatClampNeg 2, U.2.2.2.1.set U.2.2.2.2.toNatClampNeg 0, U.2.2.2.2 + 1) := if_pos (by show U.2.2.2.2.toInt ≤ 120; omega)
        have fl : (U.2.2.2.2 + 1).toInt = U.2.2.2.2.toInt + 1 := by rw [kd_add (by omega) (by omega), k1]
        have epl : (S2.2.2.2.2 - 1).toInt = T.2.2.2.2.toInt := by rw [e1c, kd_sub (by omega) (by omega), k1]; omega
        have tp := Int32.toNat_toInt (S2.2.2.2.2 - 1)
        have g1 : (cAim (S2.2.2.2.2 - 1) (cAdd 2 0 U)).2.2 = (U.2.2.1.set U.2.2.2.2.toNatClampNeg 2, (U.2.2.2.1.set U.2.2.2.2.toNatClampNeg 0).set (S2.2.2.2.2 - 1).toNatClampNeg (U.2.2.2.2 + 1), U.2.2.2.2 + 1) := by
          show lAim (S2.2.2.2.2 - 1) (cAdd 2 0 U).2.2 = _
          rw [f1]
          exact if_pos ⟨by omega, by show (S2.2.2.2.2 - 1).toInt < (U.2.2.2.2 + 1).toInt; omega⟩
        have gp : (cAim (S2.2.2.2.2 - 1) (cAdd 2 0 U)).1 = U.1 := rfl
        have gf : (cAim (S2.2.2.2.2 - 1) (cAdd 2 0 U)).2.1 = U.2.1 := rfl
        generalize hW : cAim (S2.2.2.2.2 - 1) (cAdd 2 0 U) = W at *
        have g1a : W.2.2.1 = U.2.2.1.set U.2.2.2.2.toNatClampNeg 2 := congrArg (fun z => z.1) g1
        have g1b : W.2.2.2.1 = (U.2.2.2.1.set U.2.2.2.2.toNatClampNeg 0).set (S2.2.2.2.2 - 1).toNatClampNeg (U.2.2.2.2 + 1) := congrArg (fun z => z.2.1) g1
        have g1c : W.2.2.2.2 = U.2.2.2.2 + 1 := congrArg (fun z => z.2.2) g1
        obtain ⟨sy1, sy2, sy3⟩ := sSet (v := Z.1.2.1) h10 h12.1 (by omega)
        obtain ⟨sz1, sz2, sz3⟩ := sSet (v := (rAt1 Y.2).2.1) sy1 h12.1 (by omega)
        obtain ⟨se1, se2, se3⟩ := sSet (v := V.2.2.1) h11 h12.1 (by omega)
        refine ⟨Or.inr ⟨by show ¬ ((1 : Int32).toInt = 0); omega, l ++ [(some d, d2)], ?_⟩, fun _ => by rw [gp]; omega⟩
        have st1 : ∀ j : Nat, (j : Int) < U.2.2.2.2.toInt → W.2.2.1.getD j 0 = U.2.2.1.getD j 0 := fun j hj => by rw [g1a, gD_set (by omega), if_neg (by omega)]
        have wi1 : ∀ j : Nat, (j : Int) < U.2.2.2.2.toInt → j ≠ (S2.2.2.2.2 - 1).toNatClampNeg → W.2.2.2.1.getD j 0 = U.2.2.2.1.getD j 0 := fun j hj hne => by
          rw [g1b, gD_set (by simpa using (by omega : (S2.2.2.2.2 - 1).toNatClampNeg < U.2.2.2.1.length)), if_neg hne, gD_set (by omega), if_neg (by omega)]
        have s2t : ∀ j : Nat, (j : Int) < T.2.2.2.2.toInt → S2.2.2.1.getD j 0 = T.2.2.1.getD j 0 ∧ S2.2.2.2.1.getD j 0 = T.2.2.2.1.getD j 0 := fun j hj => by
          rw [e1a, e1b, gD_set (by omega), gD_set (by omega), if_neg (by omega), if_neg (by omega)]
          exact ⟨rfl, rfl⟩
        have all : ∀ j : Nat, (j : Int) < T.2.2.2.2.toInt → W.2.2.1.getD j 0 = T.2.2.1.getD j 0 ∧ W.2.2.2.1.getD j 0 = T.2.2.2.1.getD j 0 := fun j hj => by
          have a := c4c j (by omega)
          have b := s2t j hj
          exact ⟨(st1 j (by omega)).trans (a.1.trans b.1), (wi1 j (by omega) (by omega)).trans (a.2.trans b.2)⟩
        refine ⟨by show W.1 = _; rw [gp]; exact p1, by rw [gf]; exact p2, by rw [gp]; exact p3, ?_, ?_, ⟨?_, ?_, p8⟩, ⟨sa1, sz1, se1⟩, ⟨by show 0 ≤ (Z.2.1 + 1).toInt; omega, by show 2 * (Z.2.1 + 1).toInt ≤ W.1.toInt + 1; rw [gp]; omega⟩, ?_, ?_, ?_⟩
        · rw [g1c, gp]; omega
        · rw [gp]; exact p5
        · rw [g1a]; simpa using p6
        · rw [g1b]; simpa using p7
        · refine cLy_snoc l 0 (cLy_congr l 0 S.2.2.2.2.toInt.toNat (fun j hj => ?_) hc).1 ?_
          · have a := all j (by omega)
            have b := b4.2.2.2.1 j (by omega)
            exact ⟨a.1.trans b.1, a.2.trans b.2⟩
          · refine ⟨fun j hj => ?_, ?_, ?_, fun j hj => ?_, ?_, ?_⟩
            · have a := all (S.2.2.2.2.toInt.toNat + j) (by omega)
              have b := b4.2.2.2.2 j hj
              exact ⟨by rw [a.1]; exact b.1, by rw [a.2]; exact b.2⟩
            · have e : S.2.2.2.2.toInt.toNat + d.length = T.2.2.2.2.toNatClampNeg := by omega
              rw [e, st1 _ (by omega), (c4c _ (by omega)).1, e1a, gD_set (by omega), if_pos rfl]
              exact k3
            · have e : S.2.2.2.2.toInt.toNat + d.length = (S2.2.2.2.2 - 1).toNatClampNeg := by omega
              rw [g1b, e, gD_set (by simpa using (by omega : (S2.2.2.2.2 - 1).toNatClampNeg < U.2.2.2.1.length)), if_pos rfl]
              omega
            · have a1 := st1 (S.2.2.2.2.toInt.toNat + d.length + 1 + j) (by omega)
              have a2 := wi1 (S.2.2.2.2.toInt.toNat + d.length + 1 + j) (by omega) (by omega)
              have b := c4d j hj
              rw [show S2.2.2.2.2.toInt.toNat + j = S.2.2.2.2.toInt.toNat + d.length + 1 + j by rw [e1c]; omega] at b
              exact ⟨by rw [a1]; exact b.1, by rw [a2]; exact b.2⟩
            · have e : S.2.2.2.2.toInt.toNat + d.length + 1 + d2.length = U.2.2.2.2.toNatClampNeg := by rw [e1c] at lc2; omega
              rw [e, g1a, gD_set (by omega), if_pos rfl]
              exact k2
            · show S.2.2.2.2.toInt.toNat + d.length + 1 + d2.length + 1 = W.2.2.2.2.toInt.toNat
              rw [g1c]
              rw [e1c] at lc2
              omega
        · refine rLy_snoc l 0 0 (rLy_congr l 0 0 Z.2.1.toInt.toNat Z.1.2.1.toInt.toNat (fun m hm => ⟨sa3 m hm, (sz3 m hm).trans (sy3 m hm), se3 m hm⟩) (fun m hm => ?_) hr).1 ?_
          · exact (c5c m (by omega)).trans (b5.2.2.1 m (by omega))
          · refine ⟨⟨?_, ?_, ?_⟩, fun j hj => ?_, fun j hj => ?_, ?_, ?_⟩
            · rw [sa2]; omega
            · rw [sz2]; show Y.2.2.1.toInt = _; omega
            · rw [se2]; omega
            · exact (c5c _ (by omega)).trans (b5.2.2.2 j hj)
            · have b := c5d j hj
              rw [show Y.2.2.1.toInt.toNat + j = Z.1.2.1.toInt.toNat + d.length + j by omega] at b
              exact b
            · show Z.2.1.toInt.toNat + 1 = (Z.2.1 + 1).toInt.toNat
              omega
            · show Z.1.2.1.toInt.toNat + d.length + d2.length = V.2.2.1.toInt.toNat
              omega
        · intro x hx
          rcases List.mem_append.mp hx with hx | hx
          · exact hok x hx
          · have hx := List.mem_singleton.mp hx
            subst hx
            exact ⟨c6, fun a ha => by cases ha; exact b6⟩
    · -- a line without
      rw [cTk_f h63, rTk_f (by rw [hx]; exact h63)]
      dsimp only
      rw [if_pos k0, if_pos k0]
      unfold rLn2
      rw [if_neg (by show ¬ ((1 : Int32).toInt = 0); omega)]
      have tl := Int32.toNat_toInt T.2.2.2.2
      have e1 : (cAdd 2 0 T).2.2 = (T.2.2.1.set T.2.2.2.2.toNatClampNeg 2, T.2.2.2.1.set T.2.2.2.2.toNatClampNeg 0, T.2.2.2.2 + 1) := if_pos (by show T.2.2.2.2.toInt ≤ 120; omega)
      have el : (T.2.2.2.2 + 1).toInt = T.2.2.2.2.toInt + 1 := by rw [kd_add (by omega) (by omega), k1]
      have gp : (cAdd 2 0 T).1 = T.1 := rfl
      have gf : (cAdd 2 0 T).2.1 = T.2.1 := rfl
      generalize hW : cAdd 2 0 T = W at *
      have g1a : W.2.2.1 = T.2.2.1.set T.2.2.2.2.toNatClampNeg 2 := congrArg (fun z => z.1) e1
      have g1b : W.2.2.2.1 = T.2.2.2.1.set T.2.2.2.2.toNatClampNeg 0 := congrArg (fun z => z.2.1) e1
      have g1c : W.2.2.2.2 = T.2.2.2.2 + 1 := congrArg (fun z => z.2.2) e1
      obtain ⟨sy1, sy2, sy3⟩ := sSet (v := Z.1.2.1) h10 h12.1 (by omega)
      obtain ⟨se1, se2, se3⟩ := sSet (v := Y.2.2.1) h11 h12.1 (by omega)
      have all : ∀ j : Nat, (j : Int) < T.2.2.2.2.toInt → W.2.2.1.getD j 0 = T.2.2.1.getD j 0 ∧ W.2.2.2.1.getD j 0 = T.2.2.2.1.getD j 0 := fun j hj => by
        rw [g1a, g1b, gD_set (by omega), gD_set (by omega), if_neg (by omega), if_neg (by omega)]
        exact ⟨rfl, rfl⟩
      refine ⟨Or.inr ⟨by show ¬ ((1 : Int32).toInt = 0); omega, l ++ [(none, d)], ?_⟩, fun _ => by rw [gp]; exact b3⟩
      refine ⟨by rw [gp]; exact q1, by rw [gf]; exact q2, by rw [gp]; exact q3, ?_, by rw [gp]; exact q5, ⟨?_, ?_, q8⟩, ⟨sa1, sy1, se1⟩, ⟨by show 0 ≤ (Z.2.1 + 1).toInt; omega, by show 2 * (Z.2.1 + 1).toInt ≤ W.1.toInt + 1; rw [gp]; omega⟩, ?_, ?_, ?_⟩
      · rw [g1c, gp]; omega
      · rw [g1a]; simpa using q6
      · rw [g1b]; simpa using q7
      · refine cLy_snoc l 0 (cLy_congr l 0 S.2.2.2.2.toInt.toNat (fun j hj => ?_) hc).1 ?_
        · have a := all j (by omega)
          have b := b4.2.2.2.1 j (by omega)
          exact ⟨a.1.trans b.1, a.2.trans b.2⟩
        · refine ⟨fun j hj => ?_, ?_, ?_⟩
          · have a := all (S.2.2.2.2.toInt.toNat + j) (by omega)
            have b := b4.2.2.2.2 j hj
            exact ⟨by rw [a.1]; exact b.1, by rw [a.2]; exact b.2⟩
          · have e : S.2.2.2.2.toInt.toNat + d.length = T.2.2.2.2.toNatClampNeg := by omega
            rw [e, g1a, gD_set (by omega), if_pos rfl]
            exact k2
          · show S.2.2.2.2.toInt.toNat + d.length + 1 = W.2.2.2.2.toInt.toNat
            rw [g1c]
            omega
      · refine rLy_snoc l 0 0 (rLy_congr l 0 0 Z.2.1.toInt.toNat Z.1.2.1.toInt.toNat (fun m hm => ⟨sa3 m hm, sy3 m hm, se3 m hm⟩) (fun m hm => b5.2.2.1 m (by omega)) hr).1 ?_
        refine ⟨⟨?_, ?_, ?_⟩, b5.2.2.2, ?_, ?_⟩
        · rw [sa2]; omega
        · rw [sy2]; omega
        · rw [se2]; omega
        · show Z.2.1.toInt.toNat + 1 = (Z.2.1 + 1).toInt.toNat
          omega
        · show Z.1.2.1.toInt.toNat + d.length = Y.2.2.1.toInt.toNat
          omega
      · intro x hx
        rcases List.mem_append.mp hx with hx | hx
        · exact hok x hx
        · have hx := List.mem_singleton.mp hx
          subst hx
          exact ⟨b6, fun a ha => by cases ha⟩
theorem sim_lpl (hn : n.toInt ≤ 120) (k : Nat) : ∀ (k' : Nat) (S : cS) (X : Int32 × rL), sLR n S X → (¬ (X.1.toInt = 0) → (n.toInt - S.1.toInt).toNat ≤ k ∧ (n.toInt - S.1.toInt).toNat ≤ k') → sLR n (cLpL t n k S) (rLpL t n k' X) := by
  have k0 : (0 : Int32).toInt = 0 := by decide
  have k59 : (59 : Int32).toInt = 59 := by decide
  have km : (-1 : Int32).toInt = -1 := by decide
  have bad : ∀ (k : Nat) (S : cS), S.2.1.toInt ≠ 0 → cLpL t n k S = S := fun k S hb => by
    cases k with
    | zero => rfl
    | succ k =>
      have e1 : cLpL t n (k + 1) S = (if (cTk t n 59 S).1.toInt = 0 then (cTk t n 59 S).2 else cLpL t n k (cLin t n (cTk t n 59 S).2)) := rfl
      rw [e1, cTk_f (by rw [cHr_1 hb]; omega)]
      exact if_pos k0
  have badr : ∀ (k : Nat) (X : Int32 × rL), X.1.toInt = 0 → rLpL t n k X = X := fun k X hz => by
    cases k with
    | zero => rfl
    | succ k => exact if_pos hz
  have out : ∀ (k k' : Nat) (S : cS) (X : Int32 × rL) (l : List kLn), ¬ (X.1.toInt = 0) → sL n S X.2 l → ¬ ((cHr t n S.1 S.2.1).toInt = (59 : Int32).toInt) → cLpL t n k S = S ∧ rLpL t n k' X = X := fun k k' S X l hz hl hne => by
    have hx : rHr t n X.2.1 = cHr t n S.1 S.2.1 := by
      unfold rHr
      rw [← hl.1]
      exact (cHr_0 hl.2.1).symm
    refine ⟨?_, ?_⟩
    · cases k with
      | zero => rfl
      | succ k =>
        have e1 : cLpL t n (k + 1) S = (if (cTk t n 59 S).1.toInt = 0 then (cTk t n 59 S).2 else cLpL t n k (cLin t n (cTk t n 59 S).2)) := rfl
        rw [e1, cTk_f hne]
        exact if_pos k0
    · cases k' with
      | zero => rfl
      | succ k' =>
        have e1 : rLpL t n (k' + 1) X = (if X.1.toInt = 0 then X else if (rTk t n 59 X.2.1).1.toInt = 0 then (X.1, ((rTk t n 59 X.2.1).2, X.2.2)) else rLpL t n k' (rLin t n ((rTk t n 59 X.2.1).2, X.2.2))) := rfl
        rw [e1, if_neg hz, rTk_f (by rw [hx]; exact hne)]
        exact if_pos k0
  induction k with
  | zero =>
    intro k' S X h hk
    rcases h with ⟨hz, hb⟩ | ⟨hz, l, hl⟩
    · rw [badr k' X hz]; exact Or.inl ⟨hz, hb⟩
    · have hne : ¬ ((cHr t n S.1 S.2.1).toInt = (59 : Int32).toInt) := fun e => by
        have := (cHr_at (by rw [e]; omega)).2
        have := (hk hz).1
        omega
      obtain ⟨a, b⟩ := out 0 k' S X l hz hl hne
      rw [a, b]
      exact Or.inr ⟨hz, l, hl⟩
  | succ k ih =>
    intro k' S X h hk
    rcases h with ⟨hz, hb⟩ | ⟨hz, l, hl⟩
    · rw [badr k' X hz, bad _ _ hb.2]; exact Or.inl ⟨hz, hb⟩
    · by_cases e : (cHr t n S.1 S.2.1).toInt = (59 : Int32).toInt
      · have hp := (cHr_at (by rw [e]; omega)).2
        have hx : rHr t n X.2.1 = cHr t n S.1 S.2.1 := by
          unfold rHr
          rw [← hl.1]
          exact (cHr_0 hl.2.1).symm
        cases k' with
        | zero =>
          have := (hk hz).2
          omega
        | succ k' =>
          have e1 : cLpL t n (k + 1) S = (if (cTk t n 59 S).1.toInt = 0 then (cTk t n 59 S).2 else cLpL t n k (cLin t n (cTk t n 59 S).2)) := rfl
          have e2 : rLpL t n (k' + 1) X = (if X.1.toInt = 0 then X else if (rTk t n 59 X.2.1).1.toInt = 0 then (X.1, ((rTk t n 59 X.2.1).2, X.2.2)) else rLpL t n k' (rLin t n ((rTk t n 59 X.2.1).2, X.2.2))) := rfl
          rw [e1, e2, if_neg hz, cTk_t e, rTk_t (by rw [hx]; exact e), if_neg (by decide : ¬ ((1 : Int32).toInt = 0)), if_neg (by decide : ¬ ((1 : Int32).toInt = 0))]
          dsimp only
          obtain ⟨h1, h2, h3, h4, h5, h6, h7, h8, h9, h10, h11⟩ := hl
          have ep := kp1 h3.1 hp
          have hl2 : sL n (cAt1 S) (rAt1 X.2.1, X.2.2) l := ⟨by show S.1 + 1 = X.2.1.1 + 1; rw [h1], h2, ⟨by show 0 ≤ (S.1 + 1).toInt; omega, by show (S.1 + 1).toInt ≤ n.toInt; omega⟩, ⟨h4.1, by show S.2.2.2.2.toInt ≤ (S.1 + 1).toInt + 1; omega⟩, ⟨h5.1, by show X.2.1.2.1.toInt ≤ (S.1 + 1).toInt; omega⟩, h6, h7, ⟨h8.1, by show 2 * X.2.2.1.toInt ≤ (S.1 + 1).toInt + 1; omega⟩, h9, h10, h11⟩
          obtain ⟨r1, r2⟩ := sim_lin (t := t) hn hl2 (by show S.2.2.2.2.toInt ≤ (S.1 + 1).toInt; omega) (by show 2 * X.2.2.1.toInt ≤ (S.1 + 1).toInt; omega)
          refine ih k' _ _ r1 (fun z => ?_)
          have a := r2 z
          have a : (S.1 + 1).toInt < (cLin t n (cAt1 S)).1.toInt := a
          obtain ⟨b1, b2⟩ := hk hz
          omega
      · obtain ⟨a, b⟩ := out (k + 1) k' S X l hz hl e
        rw [a, b]
        exact Or.inr ⟨hz, l, hl⟩
theorem sim_txt {st wi L A Y E : List Int32} (h0 : 0 ≤ n.toInt) (hn : n.toInt ≤ 120) (l1 : st.length = 121) (l2 : wi.length = 121) (l3 : L.length = 200) (l4 : A.length = 61) (l5 : Y.length = 61) (l6 : E.length = 61) : (cTxt t n st wi).1 = (rTxt t n L A Y E).2.1.1 ∧ (cOk n (cTxt t n st wi) ↔ rOk n (rTxt t n L A Y E)) ∧ (cOk n (cTxt t n st wi) → ∃ l, sL n (cTxt t n st wi) (rTxt t n L A Y E).2 l) := by
  have k0 : (0 : Int32).toInt = 0 := by decide
  have hl : sL n (0, 0, st, wi, 0) ((0, 0, L), 0, A, Y, E) [] := by
    refine ⟨rfl, k0, ⟨?_, ?_⟩, ⟨?_, ?_⟩, ⟨?_, ?_⟩, ⟨l1, l2, l3⟩, ⟨l4, l5, l6⟩, ⟨?_, ?_⟩, rfl, ⟨rfl, rfl⟩, fun x hx => absurd hx List.not_mem_nil⟩ <;> simp only [k0] <;> omega
  obtain ⟨r1, r2⟩ := sim_lin (t := t) hn hl (by show (0 : Int32).toInt ≤ (0 : Int32).toInt; omega) (by show 2 * (0 : Int32).toInt ≤ (0 : Int32).toInt; omega)
  have r := sim_lpl (t := t) hn n.toInt.toNat n.toInt.toNat _ _ r1 (fun z => by
    have a := r2 z
    have a : (0 : Int32).toInt < _ := a
    omega)
  have r : sLR n (cTxt t n st wi) (rTxt t n L A Y E) := r
  rcases r with ⟨hz, hb⟩ | ⟨hz, l, hl⟩
  · exact ⟨hb.1, ⟨fun z => absurd z.1 hb.2, fun z => absurd hz z.1⟩, fun z => absurd z.1 hb.2⟩
  · refine ⟨hl.1, ⟨fun z => ⟨hz, ?_⟩, fun z => ⟨hl.2.1, ?_⟩⟩, fun _ => ⟨l, hl⟩⟩
    · have := hl.2.2.1.2
      have := z.2
      rw [← hl.1]
      omega
    · have := z.2
      rw [← hl.1] at this
      omega
end SLN
end
section
/-! BOTH LAWS SAY THE SAME -/
noncomputable def dRun (nm : List Int32) : List Int32 → List Int32 → List Int32
  | [], s => s
  | x :: d, s => dRun nm d (wOp nm x s)
noncomputable def dVal (nm d : List Int32) : Int32 := (dRun nm d []).getD 0 0
noncomputable def sayL (nm : List Int32) : List kLn → Int32
  | [] => 0
  | (none, d) :: _ => dVal nm d
  | (some a, d) :: r => if (dVal nm a).toInt = 0 then sayL nm r else dVal nm d
theorem dRun_snoc (nm : List Int32) : ∀ (d s : List Int32) (x : Int32), dRun nm (d ++ [x]) s = wOp nm x (dRun nm d s)
  | [], s, x => rfl
  | y :: d, s, x => dRun_snoc nm d (wOp nm y s) x
theorem wRun_at {L nm d : List Int32} {f : Nat} (h : rAt L f d) : ∀ n : Nat, n ≤ d.length → wRun L nm f n = dRun nm (d.take n) []
  | 0, _ => by rw [List.take_zero]; rfl
  | n + 1, hn => by
    have e : d.take (n + 1) = d.take n ++ [d.getD n 0] := by
      rw [List.take_succ, List.getElem?_eq_getElem (by omega), List.getD_eq_getElem?_getD, List.getElem?_eq_getElem (by omega)]
      rfl
    rw [e, dRun_snoc, ← wRun_at h n (by omega), ← h n (by omega)]
    rfl
theorem wVal_at {L nm d : List Int32} {f : Nat} {x y : Int32} (h : rAt L f d) (hx : x.toInt = (f : Int)) (hy : y.toInt = ((f + d.length : Nat) : Int)) : wVal L nm x y = dVal nm d := by
  unfold wVal dVal
  rw [show x.toInt.toNat = f by omega, show (y.toInt - x.toInt).toNat = d.length by omega, wRun_at h d.length (Nat.le_refl _), List.take_length]
theorem dHt_ne {d : List Int32} (h : dHt d 0 = some 1) : 1 ≤ d.length := by
  cases d with
  | nil => cases h
  | cons x d => exact Nat.succ_le_succ (Nat.zero_le _)
theorem wLaw_say2 {A Y E L nm : List Int32} : ∀ (l : List kLn) (m j c k e : Nat), rLy A Y E L j c l k e → k = j + m → (∀ x ∈ l, okLn x) → wLaw A Y E L nm m j = sayL nm l
  | [], m, j, c, k, e, h, hk, _ => by
    have h1 := h.1
    have hm : m = 0 := by omega
    subst hm
    rfl
  | (none, d) :: r, m, j, c, k, e, h, hk, ho => by
    obtain ⟨⟨h1, h2, h3⟩, h4, h5⟩ := h
    have := (rLy_congr r _ _ _ _ (fun _ _ => ⟨rfl, rfl, rfl⟩) (fun _ _ => rfl) h5).2.1
    cases m with
    | zero => omega
    | succ m =>
      have e1 : wLaw A Y E L nm (m + 1) j = (if (A.getD j 0).toInt < (Y.getD j 0).toInt ∧ (wVal L nm (A.getD j 0) (Y.getD j 0)).toInt = 0 then wLaw A Y E L nm m (j + 1) else wVal L nm (Y.getD j 0) (E.getD j 0)) := rfl
      rw [e1, if_neg (fun z => by have := z.1; omega)]
      exact wVal_at h4 h2 h3
  | (some a, d) :: r, m, j, c, k, e, h, hk, ho => by
    obtain ⟨⟨h1, h2, h3⟩, h4, h5, h6⟩ := h
    have := (rLy_congr r _ _ _ _ (fun _ _ => ⟨rfl, rfl, rfl⟩) (fun _ _ => rfl) h6).2.1
    have ha := dHt_ne ((ho _ List.mem_cons_self).2 a rfl)
    cases m with
    | zero => omega
    | succ m =>
      have e1 : wLaw A Y E L nm (m + 1) j = (if (A.getD j 0).toInt < (Y.getD j 0).toInt ∧ (wVal L nm (A.getD j 0) (Y.getD j 0)).toInt = 0 then wLaw A Y E L nm m (j + 1) else wVal L nm (Y.getD j 0) (E.getD j 0)) := rfl
      have e2 : wVal L nm (A.getD j 0) (Y.getD j 0) = dVal nm a := wVal_at h4 h1 h2
      have e3 : wVal L nm (Y.getD j 0) (E.getD j 0) = dVal nm d := wVal_at h5 h2 h3
      rw [e1, e2, e3]
      show _ = (if (dVal nm a).toInt = 0 then sayL nm r else dVal nm d)
      by_cases hz : (dVal nm a).toInt = 0
      · rw [if_pos ⟨by omega, hz⟩, if_pos hz]
        exact wLaw_say2 r m (j + 1) _ k e h6 (by omega) (fun x hx => ho x (List.mem_cons_of_mem _ hx))
      · rw [if_neg (fun z => hz z.2), if_neg hz]
/-- the class's stack beside a list -/
noncomputable def lRel (S : List Int32 × Int32) (s : List Int32) : Prop := S.1.length = 121 ∧ S.2.toInt = s.length ∧ ∀ j : Nat, j < s.length → S.1.getD j 0 = s.getD j 0
theorem lRel_push {S : List Int32 × Int32} {s : List Int32} {v : Int32} (h : lRel S s) (hl : s.length ≤ 120) : lRel (lPush S v) (s ++ [v]) := by
  obtain ⟨h1, h2, h3⟩ := h
  have t := Int32.toNat_toInt S.2
  have k1 : (1 : Int32).toInt = 1 := by decide
  have e : lPush S v = (S.1.set S.2.toNatClampNeg v, S.2 + 1) := if_pos (by omega)
  rw [e]
  refine ⟨by simpa using h1, ?_, fun j hj => ?_⟩
  · dsimp only
    rw [kd_add (by omega) (by omega), k1, h2]
    simp
  · dsimp only
    rw [List.length_append] at hj
    have hj : j < s.length + 1 := hj
    rw [gD_set (by omega)]
    by_cases c : j = S.2.toNatClampNeg
    · rw [if_pos c, gD_r (by omega), show j - s.length = 0 by omega]
      rfl
    · rw [if_neg c, gD_l (by omega)]
      exact h3 j (by omega)
theorem gD_take {s : List Int32} {n j : Nat} (h : j < n) : (s.take n).getD j 0 = s.getD j 0 := by
  rw [List.getD_eq_getElem?_getD, List.getElem?_take_of_lt h, ← List.getD_eq_getElem?_getD]
theorem lRel_pop {S : List Int32 × Int32} {s : List Int32} (h : lRel S s) (hl : 1 ≤ s.length) : (lPop S).1 = s.getD (s.length - 1) 0 ∧ lRel (lPop S).2 (s.take (s.length - 1)) := by
  obtain ⟨h1, h2, h3⟩ := h
  have k1 : (1 : Int32).toInt = 1 := by decide
  have b := kd_bd S.2
  have e : lPop S = (S.1.getD (S.2 - 1).toNatClampNeg 0, (S.1, S.2 - 1)) := if_pos (by omega)
  have e1 : (S.2 - 1).toInt = S.2.toInt - 1 := by rw [kd_sub (by omega) (by omega), k1]
  have t := Int32.toNat_toInt (S.2 - 1)
  rw [e]
  refine ⟨?_, h1, ?_, fun j hj => ?_⟩
  · dsimp only
    rw [show (S.2 - 1).toNatClampNeg = s.length - 1 by omega]
    exact h3 _ (by omega)
  · dsimp only
    rw [e1, h2, List.length_take]
    omega
  · rw [List.length_take] at hj
    rw [gD_take (by omega)]
    exact h3 j (by omega)
theorem set_last {s : List Int32} {w : Int32} (h : 1 ≤ s.length) : s.set (s.length - 1) w = s.take (s.length - 1) ++ [w] := by
  have e : s = s.take (s.length - 1) ++ [s.getD (s.length - 1) 0] := by
    conv => lhs; rw [← List.take_length (l := s), show s.length = (s.length - 1) + 1 by omega, List.take_succ, List.getElem?_eq_getElem (by omega)]
    rw [List.getD_eq_getElem?_getD, List.getElem?_eq_getElem (by omega)]
    rfl
  have e2 : s.set (s.length - 1) w = (s.take (s.length - 1) ++ [s.getD (s.length - 1) 0]).set (s.length - 1) w := congrArg (fun z : List Int32 => z.set (s.length - 1) w) e
  rw [e2, List.set_append_right _ _ (by rw [List.length_take]; omega), List.length_take, show min (s.length - 1) s.length = s.length - 1 by omega, Nat.sub_self]
  rfl
theorem set_last2 {s : List Int32} {w : Int32} (h : 2 ≤ s.length) : (s.set (s.length - 2) w).take (s.length - 1) = s.take (s.length - 2) ++ [w] := by
  rw [List.take_set, show s.length - 2 = (s.take (s.length - 1)).length - 1 by rw [List.length_take]; omega, set_last (by rw [List.length_take]; omega), List.length_take, List.take_take, show min (min (s.length - 1) s.length - 1) (s.length - 1) = min (s.length - 1) s.length - 1 by omega]
theorem cJ_both {x a b : Int32} (h0 : 6 ≤ x.toInt) (h1 : x.toInt ≤ 15) : cJoin (eSg x) a b = rBoth x a b := by
  have hx : x = 6 ∨ x = 7 ∨ x = 8 ∨ x = 9 ∨ x = 10 ∨ x = 11 ∨ x = 12 ∨ x = 13 ∨ x = 14 ∨ x = 15 := by
    rcases (by omega : x.toInt = 6 ∨ x.toInt = 7 ∨ x.toInt = 8 ∨ x.toInt = 9 ∨ x.toInt = 10 ∨ x.toInt = 11 ∨ x.toInt = 12 ∨ x.toInt = 13 ∨ x.toInt = 14 ∨ x.toInt = 15) with h | h | h | h | h | h | h | h | h | h
    · exact Or.inl (kv42 (h.trans (by decide)))
    · exact Or.inr (Or.inl (kv42 (h.trans (by decide))))
    · exact Or.inr (Or.inr (Or.inl (kv42 (h.trans (by decide)))))
    · exact Or.inr (Or.inr (Or.inr (Or.inl (kv42 (h.trans (by decide))))))
    · exact Or.inr (Or.inr (Or.inr (Or.inr (Or.inl (kv42 (h.trans (by decide)))))))
    · exact Or.inr (Or.inr (Or.inr (Or.inr (Or.inr (Or.inl (kv42 (h.trans (by decide))))))))
    · exact Or.inr (Or.inr (Or.inr (Or.inr (Or.inr (Or.inr (Or.inl (kv42 (h.trans (by decide)))))))))
    · exact Or.inr (Or.inr (Or.inr (Or.inr (Or.inr (Or.inr (Or.inr (Or.inl (kv42 (h.trans (by decide))))))))))
    · exact Or.inr (Or.inr (Or.inr (Or.inr (Or.inr (Or.inr (Or.inr (Or.inr (Or.inl (kv42 (h.trans (by decide)))))))))))
    · exact Or.inr (Or.inr (Or.inr (Or.inr (Or.inr (Or.inr (Or.inr (Or.inr (Or.inr (kv42 (h.trans (by decide)))))))))))
  rcases hx with h | h | h | h | h | h | h | h | h | h <;> subst h <;> rfl
theorem kx_6_15 {x : Int32} (h0 : 6 ≤ x.toInt) (h1 : x.toInt ≤ 15) : x = 6 ∨ x = 7 ∨ x = 8 ∨ x = 9 ∨ x = 10 ∨ x = 11 ∨ x = 12 ∨ x = 13 ∨ x = 14 ∨ x = 15 := by
  rcases (by omega : x.toInt = 6 ∨ x.toInt = 7 ∨ x.toInt = 8 ∨ x.toInt = 9 ∨ x.toInt = 10 ∨ x.toInt = 11 ∨ x.toInt = 12 ∨ x.toInt = 13 ∨ x.toInt = 14 ∨ x.toInt = 15) with h | h | h | h | h | h | h | h | h | h
  · exact Or.inl (kv42 (h.trans (by decide)))
  · exact Or.inr (Or.inl (kv42 (h.trans (by decide))))
  · exact Or.inr (Or.inr (Or.inl (kv42 (h.trans (by decide)))))
  · exact Or.inr (Or.inr (Or.inr (Or.inl (kv42 (h.trans (by decide))))))
  · exact Or.inr (Or.inr (Or.inr (Or.inr (Or.inl (kv42 (h.trans (by decide)))))))
  · exact Or.inr (Or.inr (Or.inr (Or.inr (Or.inr (Or.inl (kv42 (h.trans (by decide))))))))
  · exact Or.inr (Or.inr (Or.inr (Or.inr (Or.inr (Or.inr (Or.inl (kv42 (h.trans (by decide)))))))))
  · exact Or.inr (Or.inr (Or.inr (Or.inr (Or.inr (Or.inr (Or.inr (Or.inl (kv42 (h.trans (by decide))))))))))
  · exact Or.inr (Or.inr (Or.inr (Or.inr (Or.inr (Or.inr (Or.inr (Or.inr (Or.inl (kv42 (h.trans (by decide)))))))))))
  · exact Or.inr (Or.inr (Or.inr (Or.inr (Or.inr (Or.inr (Or.inr (Or.inr (Or.inr (kv42 (h.trans (by decide)))))))))))
theorem eSg_ne {x : Int32} (h0 : 6 ≤ x.toInt) (h1 : x.toInt ≤ 15) : (eSg x).toInt ≠ 0 ∧ (eSg x).toInt ≠ 1 ∧ (eSg x).toInt ≠ 2 ∧ (eSg x).toInt ≠ 3 ∧ (eSg x).toInt ≠ 33 ∧ (eSg x).toInt ≠ 126 := by
  rcases kx_6_15 h0 h1 with h | h | h | h | h | h | h | h | h | h <;> subst h
  · decide +kernel
  · decide +kernel
  · decide +kernel
  · decide +kernel
  · decide +kernel
  · decide +kernel
  · decide +kernel
  · decide +kernel
  · decide +kernel
  · decide +kernel
section LST
variable {st wi nm : List Int32} {len : Int32}
theorem l_step {n : Nat} {P : Int32} {S : List Int32 × Int32} {s : List Int32} {x : Int32} {k1 : Nat} (h0 : 0 ≤ P.toInt) (h1 : P.toInt < len.toInt) (hS : lRel S s) (hl : s.length ≤ 120) (e1 : st.getD P.toNatClampNeg 0 = eSt x) (e2 : wi.getD P.toNatClampNeg 0 = eWi x) (hk : kEff x s.length = some k1) : ∃ S1, lRel S1 (wOp nm x s) ∧ (wOp nm x s).length = k1 ∧ lRun st wi nm len (n + 1) P S = lRun st wi nm len n (P + 1) S1 := by
  have c0 : (0 : Int32).toInt = 0 := by decide
  have c1 : (1 : Int32).toInt = 1 := by decide
  have c33 : (33 : Int32).toInt = 33 := by decide
  have c126 : (126 : Int32).toInt = 126 := by decide
  have eq : lRun st wi nm len (n + 1) P S = (if 0 ≤ P.toInt ∧ P.toInt < len.toInt then
      (if (st.getD P.toNatClampNeg 0).toInt = 0 then lRun st wi nm len n (P + 1) (lPush S (wi.getD P.toNatClampNeg 0))
      else if (st.getD P.toNatClampNeg 0).toInt = 1 then lRun st wi nm len n (P + 1) (lPush S (if 0 ≤ (wi.getD P.toNatClampNeg 0).toInt ∧ (wi.getD P.toNatClampNeg 0).toInt < 6 then nm.getD (wi.getD P.toNatClampNeg 0).toNatClampNeg 0 else 0))
      else if (st.getD P.toNatClampNeg 0).toInt = 2 then (lPop S).1
      else if (st.getD P.toNatClampNeg 0).toInt = 3 then lRun st wi nm len n (if (lPop S).1.toInt = 0 then wi.getD P.toNatClampNeg 0 else P + 1) (lPop S).2
      else if (st.getD P.toNatClampNeg 0).toInt = 33 then lRun st wi nm len n (P + 1) (lPush (lPop S).2 (if (lPop S).1.toInt = 0 then 1 else 0))
      else if (st.getD P.toNatClampNeg 0).toInt = 126 then lRun st wi nm len n (P + 1) (lPush (lPop S).2 (-(lPop S).1))
      else lRun st wi nm len n (P + 1) (lPush (lPop (lPop S).2).2 (cJoin (st.getD P.toNatClampNeg 0) (lPop (lPop S).2).1 (lPop S).1)))
    else 0) := rfl
  rw [eq, if_pos ⟨h0, h1⟩, e1, e2]
  unfold kEff at hk
  split at hk
  next hp =>
    cases hk
    have hw : wOp nm x s = s ++ [if 18 ≤ x.toInt then x - 18 else nm.getD x.toNatClampNeg 0] := if_pos (by omega)
    rw [hw]
    by_cases h18 : 18 ≤ x.toInt
    · have a1 : eSt x = 0 := if_pos h18
      have a2 : eWi x = x - 18 := if_pos h18
      rw [a1, a2, if_pos c0, if_pos h18]
      exact ⟨_, lRel_push hS hl, by rw [List.length_append]; rfl, rfl⟩
    · have a1 : eSt x = 1 := by unfold eSt; rw [if_neg h18, if_pos (by omega)]
      have a2 : eWi x = x := by unfold eWi; rw [if_neg h18, if_pos (by omega)]
      rw [a1, a2, if_neg (by decide : ¬ ((1 : Int32).toInt = 0)), if_pos c1, if_pos (⟨by omega, by omega⟩ : 0 ≤ x.toInt ∧ x.toInt < 6), if_neg h18]
      exact ⟨_, lRel_push hS hl, by rw [List.length_append]; rfl, rfl⟩
  next hp =>
    split at hk
    next hu =>
      split at hk
      next hk1 =>
        cases hk
        obtain ⟨p1, p2⟩ := lRel_pop hS hk1
        have hw : wOp nm x s = s.set (s.length - 1) (if x.toInt = 17 then -(s.getD (s.length - 1) 0) else if (s.getD (s.length - 1) 0).toInt = 0 then 1 else 0) := by
          unfold wOp
          rw [if_neg (by omega), if_pos hu]
        rw [hw, set_last hk1]
        have hlen : (s.take (s.length - 1)).length ≤ 120 := by rw [List.length_take]; omega
        rcases hu with hu | hu
        · have a1 : eSt x = 33 := by have := kv42 (x := x) (b := 16) (hu.trans (by decide)); subst this; decide
          rw [a1, if_neg (by decide : ¬ ((33 : Int32).toInt = 0)), if_neg (by decide : ¬ ((33 : Int32).toInt = 1)), if_neg (by decide : ¬ ((33 : Int32).toInt = 2)), if_neg (by decide : ¬ ((33 : Int32).toInt = 3)), if_pos c33, p1, if_neg (by omega : ¬ (x.toInt = 17))]
          exact ⟨_, lRel_push p2 hlen, by rw [List.length_append, List.length_take]; show min (s.length - 1) s.length + 1 = _; omega, rfl⟩
        · have a1 : eSt x = 126 := by have := kv42 (x := x) (b := 17) (hu.trans (by decide)); subst this; decide
          rw [a1, if_neg (by decide : ¬ ((126 : Int32).toInt = 0)), if_neg (by decide : ¬ ((126 : Int32).toInt = 1)), if_neg (by decide : ¬ ((126 : Int32).toInt = 2)), if_neg (by decide : ¬ ((126 : Int32).toInt = 3)), if_neg (by decide : ¬ ((126 : Int32).toInt = 33)), if_pos c126, p1, if_pos hu]
          exact ⟨_, lRel_push p2 hlen, by rw [List.length_append, List.length_take]; show min (s.length - 1) s.length + 1 = _; omega, rfl⟩
      next => cases hk
    next hu =>
      split at hk
      next hb =>
        split at hk
        next hk2 =>
          cases hk
          obtain ⟨p1, p2⟩ := lRel_pop hS (by omega)
          have hl1 : (s.take (s.length - 1)).length = s.length - 1 := by rw [List.length_take]; omega
          obtain ⟨q1, q2⟩ := lRel_pop p2 (by omega)
          rw [hl1, gD_take (by omega), show s.length - 1 - 1 = s.length - 2 by omega] at q1
          rw [hl1, List.take_take, show min (s.length - 1 - 1) (s.length - 1) = s.length - 2 by omega] at q2
          have hw : wOp nm x s = (s.set (s.length - 2) (rBoth x (s.getD (s.length - 2) 0) (s.getD (s.length - 1) 0))).take (s.length - 1) := by
            unfold wOp
            rw [if_neg (by omega), if_neg hu]
          have a1 : eSt x = eSg x := by unfold eSt; rw [if_neg (by omega), if_neg (by omega)]
          obtain ⟨n0, n1, n2, n3, n4, n5⟩ := eSg_ne hb.1 hb.2
          rw [hw, set_last2 hk2, a1, if_neg n0, if_neg n1, if_neg n2, if_neg n3, if_neg n4, if_neg n5, p1, q1, cJ_both hb.1 hb.2]
          exact ⟨_, lRel_push q2 (by rw [List.length_take]; omega), by rw [List.length_append, List.length_take]; show min (s.length - 2) s.length + 1 = _; omega, rfl⟩
        next => cases hk
      next => cases hk
theorem l_codes (hlen : len.toInt ≤ 121) : ∀ (d : List Int32) (n : Nat) (P : Int32) (S : List Int32 × Int32) (s : List Int32) (k1 : Nat), 0 ≤ P.toInt → P.toInt + d.length ≤ len.toInt → lRel S s → s.length ≤ P.toInt.toNat → cAt st wi P.toInt.toNat d → dHt d s.length = some k1 → ∃ P1 S1, P1.toInt = P.toInt + d.length ∧ lRel S1 (dRun nm d s) ∧ (dRun nm d s).length = k1 ∧ lRun st wi nm len (n + d.length) P S = lRun st wi nm len n P1 S1
  | [], n, P, S, s, k1, h0, h1, hS, hl, hc, hk => by
    have hk : some s.length = some k1 := hk
    cases hk
    exact ⟨P, S, by simp, hS, rfl, rfl⟩
  | x :: d, n, P, S, s, k1, h0, h1, hS, hl, hc, hk => by
    have hk : (kEff x s.length).bind (dHt d) = some k1 := hk
    have hlx : (x :: d).length = d.length + 1 := rfl
    rw [hlx] at h1
    have t := Int32.toNat_toInt P
    cases e : kEff x s.length with
    | none => rw [e] at hk; cases hk
    | some k2 =>
      rw [e, Option.bind_some] at hk
      have a : st.getD P.toNatClampNeg 0 = eSt x ∧ wi.getD P.toNatClampNeg 0 = eWi x := by
        have a := hc 0 (by rw [hlx]; omega)
        rw [Nat.add_zero, t] at a
        exact a
      obtain ⟨S1, r1, r2, r3⟩ := l_step (len := len) (x := x) (n := n + d.length) (nm := nm) h0 (by omega) hS (by omega) a.1 a.2 e
      have c1 : (1 : Int32).toInt = 1 := by decide
      have eP : (P + 1).toInt = P.toInt + 1 := by rw [kd_add (by omega) (by omega), c1]
      have hke : k2 ≤ s.length + 1 := by
        unfold kEff at e
        split at e
        · cases e; omega
        · split at e
          · split at e
            · cases e; omega
            · cases e
          · split at e
            · split at e
              · cases e; omega
              · cases e
            · cases e
      obtain ⟨P1, S2, u1, u2, u3, u4⟩ := l_codes hlen d n (P + 1) S1 (wOp nm x s) k1 (by omega) (by omega) r1 (by omega) (fun j hj => by
        have b := hc (j + 1) (by rw [hlx]; omega)
        rw [show P.toInt.toNat + (j + 1) = (P + 1).toInt.toNat + j by omega] at b
        exact b) (by rw [r2]; exact hk)
      refine ⟨P1, S2, by rw [hlx]; omega, u2, u3, ?_⟩
      rw [hlx, show n + (d.length + 1) = n + d.length + 1 by omega, r3, u4]
theorem l_lines (hlen : len.toInt ≤ 121) : ∀ (l : List kLn) (n : Nat) (P : Int32) (S : List Int32 × Int32), 0 ≤ P.toInt → (len.toInt - P.toInt).toNat ≤ n → lRel S [] → cLy st wi P.toInt.toNat l len.toInt.toNat → (∀ x ∈ l, okLn x) → lRun st wi nm len n P S = sayL nm l
  | [], n, P, S, h0, hn, hS, hc, _ => by
    have hc : P.toInt.toNat = len.toInt.toNat := hc
    cases n with
    | zero => rfl
    | succ n =>
      unfold lRun
      exact if_neg (by omega)
  | (none, d) :: r, n, P, S, h0, hn, hS, hc, ho => by
    obtain ⟨h1, h2, h3⟩ := hc
    have hle := (cLy_congr r _ _ (fun _ _ => ⟨rfl, rfl⟩) h3).2
    have hd := (ho _ List.mem_cons_self).1
    obtain ⟨P1, S1, u1, u2, u3, u4⟩ := l_codes (nm := nm) hlen d (n - d.length) P S [] 1 h0 (by omega) hS (Nat.zero_le _) h1 hd
    rw [show n - d.length + d.length = n by omega] at u4
    rw [u4]
    obtain ⟨m, hm⟩ : ∃ m, n - d.length = m + 1 := ⟨n - d.length - 1, by omega⟩
    have t := Int32.toNat_toInt P1
    have e1 : (st.getD P1.toNatClampNeg 0).toInt = 2 := by rw [show P1.toNatClampNeg = P.toInt.toNat + d.length by omega]; exact h2
    rw [hm]
    unfold lRun
    rw [if_pos (by omega), if_neg (by omega), if_neg (by omega), if_pos e1]
    have p := (lRel_pop u2 (by omega)).1
    rw [u3] at p
    exact p
  | (some a, d) :: r, n, P, S, h0, hn, hS, hc, ho => by
    obtain ⟨h1, h2, h3, h4, h5, h6⟩ := hc
    have hle := (cLy_congr r _ _ (fun _ _ => ⟨rfl, rfl⟩) h6).2
    have hd := (ho _ List.mem_cons_self).1
    have ha := (ho _ List.mem_cons_self).2 a rfl
    obtain ⟨P1, S1, u1, u2, u3, u4⟩ := l_codes (nm := nm) hlen a (n - a.length) P S [] 1 h0 (by omega) hS (Nat.zero_le _) h1 ha
    rw [show n - a.length + a.length = n by omega] at u4
    rw [u4]
    obtain ⟨m, hm⟩ : ∃ m, n - a.length = m + 1 := ⟨n - a.length - 1, by omega⟩
    have t := Int32.toNat_toInt P1
    have c1 : (1 : Int32).toInt = 1 := by decide
    have e1 : (st.getD P1.toNatClampNeg 0).toInt = 3 := by rw [show P1.toNatClampNeg = P.toInt.toNat + a.length by omega]; exact h2
    have e2 : (wi.getD P1.toNatClampNeg 0).toInt = ((P.toInt.toNat + a.length + 1 + d.length + 1 : Nat) : Int) := by rw [show P1.toNatClampNeg = P.toInt.toNat + a.length by omega]; exact h3
    obtain ⟨p, q⟩ := lRel_pop u2 (by omega)
    rw [u3] at p q
    have q : lRel (lPop S1).2 [] := by
      rw [Nat.sub_self, List.take_zero] at q
      exact q
    have hv : (lPop S1).1 = dVal nm a := p
    rw [hm]
    have eq : lRun st wi nm len (m + 1) P1 S1 = lRun st wi nm len m (if (lPop S1).1.toInt = 0 then wi.getD P1.toNatClampNeg 0 else P1 + 1) (lPop S1).2 := by
      conv => lhs; unfold lRun
      rw [if_pos (by omega), if_neg (by omega), if_neg (by omega), if_neg (by omega), if_pos e1]
    rw [eq, hv]
    show _ = (if (dVal nm a).toInt = 0 then sayL nm r else dVal nm d)
    by_cases hz : (dVal nm a).toInt = 0
    · rw [if_pos hz, if_pos hz]
      exact l_lines hlen r m _ _ (by omega) (by omega) q (by rw [show (wi.getD P1.toNatClampNeg 0).toInt.toNat = P.toInt.toNat + a.length + 1 + d.length + 1 by omega]; exact h6) (fun x hx => ho x (List.mem_cons_of_mem _ hx))
    · rw [if_neg hz, if_neg hz]
      have eP : (P1 + 1).toInt = P1.toInt + 1 := by rw [kd_add (by omega) (by omega), c1]
      obtain ⟨P2, S2, v1, v2, v3, v4⟩ := l_codes (nm := nm) hlen d (m - d.length) (P1 + 1) (lPop S1).2 [] 1 (by omega) (by omega) q (Nat.zero_le _) (by rw [show (P1 + 1).toInt.toNat = P.toInt.toNat + a.length + 1 by omega]; exact h4) hd
      rw [show m - d.length + d.length = m by omega] at v4
      rw [v4]
      obtain ⟨m2, hm2⟩ : ∃ m2, m - d.length = m2 + 1 := ⟨m - d.length - 1, by omega⟩
      have t2 := Int32.toNat_toInt P2
      have e3 : (st.getD P2.toNatClampNeg 0).toInt = 2 := by rw [show P2.toNatClampNeg = P.toInt.toNat + a.length + 1 + d.length by omega]; exact h5
      rw [hm2]
      unfold lRun
      rw [if_pos (by omega), if_neg (by omega), if_neg (by omega), if_pos e3]
      have p2 := (lRel_pop v2 (by omega)).1
      rw [v3] at p2
      exact p2
end LST
/-- the law that class and reference have read: both say the same of any names, whatever lay on the stack -/
theorem law_same {n : Int32} {C : cS} {Z : rL} {l : List kLn} {A Y E L nm stk : List Int32} (hn : n.toInt ≤ 120) (h : sL n C Z l) (h1 : kCp Z.2.2.1 A Z.2.1.toInt.toNat) (h2 : kCp Z.2.2.2.1 Y Z.2.1.toInt.toNat) (h3 : kCp Z.2.2.2.2 E Z.2.1.toInt.toNat) (h4 : kCp Z.1.2.2 L Z.1.2.1.toInt.toNat) (hs : stk.length = 121) : lRun C.2.2.1 C.2.2.2.1 nm C.2.2.2.2 121 0 (stk, 0) = wLaw A Y E L nm Z.2.1.toInt.toNat 0 := by
  have k0 : (0 : Int32).toInt = 0 := by decide
  obtain ⟨g1, g2, g3, g4, g5, g6, g7, g8, g9, g10, g11⟩ := h
  rw [l_lines (by omega) l 121 0 (stk, 0) (by omega) (by omega) ⟨hs, by rw [k0]; rfl, fun j hj => absurd hj (Nat.not_lt_zero _)⟩ (by rw [k0]; exact g9) g11]
  exact (wLaw_say2 l _ 0 0 _ _ (rLy_congr l 0 0 _ _ (fun m hm => ⟨h1 m hm, h2 m hm, h3 m hm⟩) (fun m hm => h4 m hm) g10).1 (by omega) g11).symm
end
section
/-! THE LAW READ: the reference's code is well formed; the tape's bytes; the answers alike -/
theorem kHt_at {L d : List Int32} {f : Nat} (h : rAt L f d) : ∀ n k : Nat, n ≤ d.length → kHt L f n k = dHt (d.take n) k
  | 0, k, _ => by rw [List.take_zero]; rfl
  | n + 1, k, hn => by
    have e1 := kHt_at h n k (by omega)
    have e2 : d.take (n + 1) = d.take n ++ [d.getD n 0] := by
      rw [List.take_succ, List.getElem?_eq_getElem (by omega : n < d.length), List.getD_eq_getElem?_getD, List.getElem?_eq_getElem (by omega : n < d.length)]
      rfl
    show (kHt L f n k).bind (kEff (L.getD (f + n) 0)) = _
    rw [e1, h n (by omega), e2, dHt_app]
    cases dHt (d.take n) k with
    | none => rfl
    | some z =>
      show kEff (d.getD n 0) z = (kEff (d.getD n 0) z).bind some
      cases kEff (d.getD n 0) z <;> rfl
theorem kSeg_at {L d : List Int32} {f : Nat} {x y : Int} (h : rAt L f d) (hd : dHt d 0 = some 1) (hx : x = (f : Int)) (hy : y = ((f + d.length : Nat) : Int)) (h2 : f + d.length ≤ 200) : kSeg L x y := by
  refine ⟨by omega, by omega, by omega, ?_⟩
  rw [show x.toNat = f by omega, show y.toNat - f = d.length by omega, kHt_at h d.length 0 (Nat.le_refl _), List.take_length]
  exact hd
theorem code_rLy {A Y E L : List Int32} : ∀ (l : List kLn) (j c k e : Nat), rLy A Y E L j c l k e → e ≤ 200 → (∀ x ∈ l, okLn x) → ∀ m : Nat, j ≤ m → m < k → ((A.getD m 0).toInt < (Y.getD m 0).toInt → kSeg L (A.getD m 0).toInt (Y.getD m 0).toInt) ∧ kSeg L (Y.getD m 0).toInt (E.getD m 0).toInt
  | [], j, c, k, e, h, _, _, m, h1, h2 => by
    have := h.1
    omega
  | (none, d) :: r, j, c, k, e, h, he, ho, m, h1, h2 => by
    obtain ⟨⟨g1, g2, g3⟩, g4, g5⟩ := h
    have hr := (rLy_congr r _ _ _ _ (fun _ _ => ⟨rfl, rfl, rfl⟩) (fun _ _ => rfl) g5).2.2
    by_cases hm : m = j
    · subst hm
      exact ⟨fun z => by omega, kSeg_at g4 (ho _ List.mem_cons_self).1 g2 g3 (by omega)⟩
    · exact code_rLy r (j + 1) _ k e g5 he (fun x hx => ho x (List.mem_cons_of_mem _ hx)) m (by omega) h2
  | (some b, d) :: r, j, c, k, e, h, he, ho, m, h1, h2 => by
    obtain ⟨⟨g1, g2, g3⟩, g4, g5, g6⟩ := h
    have hr := (rLy_congr r _ _ _ _ (fun _ _ => ⟨rfl, rfl, rfl⟩) (fun _ _ => rfl) g6).2.2
    by_cases hm : m = j
    · subst hm
      exact ⟨fun _ => kSeg_at g4 ((ho _ List.mem_cons_self).2 b rfl) g1 g2 (by omega), kSeg_at g5 (ho _ List.mem_cons_self).1 g2 g3 (by omega)⟩
    · exact code_rLy r (j + 1) _ k e g6 he (fun x hx => ho x (List.mem_cons_of_mem _ hx)) m (by omega) h2
theorem code_law {n : Int32} {C : cS} {Z : rL} {l : List kLn} {i : Nat → Int32} {a : Nat → List Int32} (hn : n.toInt ≤ 120) (h : sL n C Z l) (e0 : i 7432 = Z.2.1) (h1 : kCp Z.2.2.1 (a 120) Z.2.1.toInt.toNat) (h2 : kCp Z.2.2.2.1 (a 121) Z.2.1.toInt.toNat) (h3 : kCp Z.2.2.2.2 (a 122) Z.2.1.toInt.toNat) (h4 : kCp Z.1.2.2 (a 123) Z.1.2.1.toInt.toNat) : kCode i a := by
  obtain ⟨g1, g2, g3, g4, g5, g6, g7, g8, g9, g10, g11⟩ := h
  intro j hj
  rw [e0] at hj
  exact code_rLy l 0 0 _ _ (rLy_congr l 0 0 _ _ (fun m hm => ⟨h1 m hm, h2 m hm, h3 m hm⟩) (fun m hm => h4 m hm) g10).1 (by omega) g11 j (Nat.zero_le _) (by omega)
section PK
variable {i : Nat → Int32} {a : Nat → List Int32} {q : Nat → List Int64} {r : Nat → Nat}
noncomputable def kTB (i : Nat → Int32) (a : Nat → List Int32) : Prop := kTap i a ∧ kBy (a 99)
theorem kTB_fr {w : kW} {i1 : Nat → Int32} {a1 : Nat → List Int32} {q1 : Nat → List Int64} {r1 : Nat → Nat} (g : kG w i a q r i1 a1 q1 r1) (f : kFrT w = true) (h : kTB i a) : kTB i1 a1 := by
  refine ⟨kTap_fr g f h.1, ?_⟩
  unfold kFrT at f
  simp only [Bool.and_eq_true, Bool.not_eq_true'] at f
  rw [g.fa _ f.2.2.1]
  exact h.2
theorem kBy_to {i1 : Nat → Int32} {a1 : Nat → List Int32} {q1 : Nat → List Int64} {r1 : Nat → Nat} (h : kTB i a) (g1 : kG yw86_0 i a q r i1 a1 q1 r1) : kBy (a1 119) := by
  rw [g1.fa 119 rfl, ← h.1.2]
  exact h.2
theorem kBy_all {l : List Int32} (h : l.all (fun x => decide (0 ≤ x.toInt ∧ x.toInt ≤ 255)) = true) : kBy l := fun j => by
  by_cases hj : j < l.length
  · rw [List.getD_eq_getElem?_getD, List.getElem?_eq_getElem hj]
    exact of_decide_eq_true (List.all_eq_true.mp h _ (List.getElem_mem hj))
  · rw [List.getD_eq_getElem?_getD, List.getElem?_eq_none (by omega)]
    exact ⟨by decide, by decide⟩
theorem kBy_set {l : List Int32} {j : Nat} {x : Int32} (h : kBy l) (h0 : 0 ≤ x.toInt) (h1 : x.toInt ≤ 255) : kBy (l.set j x) := by
  intro m
  rw [List.getD_eq_getElem?_getD, List.getElem?_set]
  by_cases e : j = m
  · rw [if_pos e]
    by_cases hl : j < l.length
    · rw [if_pos hl]
      exact ⟨h0, h1⟩
    · rw [if_neg hl]
      exact ⟨by decide, by decide⟩
  · rw [if_neg e, ← List.getD_eq_getElem?_getD]
    exact h m
end PK
theorem st_feed2 {i i1 i2 : Nat → Int32} {a a1 a2 : Nat → List Int32} {q q1 q2 : Nat → List Int64} {r r1 r2 : Nat → Nat} {v w x1 : Int32} (h : kTB i a) (g1 : kG yw85_0 i a q r i1 a1 q1 r1) (P1 : (((v.toInt = (-1)) ∧ (¬ (((0 : Int) ≤ x1.toInt) ∧ (x1.toInt ≤ 255))) ∧ ((i1 6273).toInt = (i 6273).toInt)) ∨ (((0 : Int) ≤ x1.toInt) ∧ (x1.toInt ≤ 255) ∧ (((v.toInt = (-3)) ∧ ((120 : Int) ≤ (i 6273).toInt) ∧ ((i1 6273).toInt = (i 6273).toInt)) ∨ (((i 6273).toInt < 120) ∧ (v.toInt = ((i 6273).toInt + 1)) ∧ ((i1 6273).toInt = ((i 6273).toInt + 1)))))) ∧ ((((0 : Int) ≤ x1.toInt) ∧ (x1.toInt ≤ 255) ∧ ((i 6273).toInt < 120) → a1 99 = (a 99).set (i 6273).toNatClampNeg x1) ∧ (¬ (((0 : Int) ≤ x1.toInt) ∧ (x1.toInt ≤ 255) ∧ ((i 6273).toInt < 120)) → a1 99 = a 99))) (g2 : kG yw146_116 i1 a1 q1 r1 i2 a2 q2 r2) (P2 : (((w.toInt = (-1)) ∧ (¬ (((0 : Int) ≤ x1.toInt) ∧ (x1.toInt ≤ 255))) ∧ ((i2 7429).toInt = (i1 7429).toInt)) ∨ (((0 : Int) ≤ x1.toInt) ∧ (x1.toInt ≤ 255) ∧ (((w.toInt = (-3)) ∧ ((120 : Int) ≤ (i1 7429).toInt) ∧ ((i2 7429).toInt = (i1 7429).toInt)) ∨ (((i1 7429).toInt < 120) ∧ (w.toInt = ((i1 7429).toInt + 1)) ∧ ((i2 7429).toInt = ((i1 7429).toInt + 1)))))) ∧ ((((0 : Int) ≤ x1.toInt) ∧ (x1.toInt ≤ 255) ∧ ((i1 7429).toInt < 120) → a2 119 = (a1 119).set (i1 7429).toNatClampNeg x1) ∧ (¬ (((0 : Int) ≤ x1.toInt) ∧ (x1.toInt ≤ 255) ∧ ((i1 7429).toInt < 120)) → a2 119 = a1 119))) : kTB i2 a2 ∧ v = w := by
  obtain ⟨k1, k2⟩ := st_feed h.1 g1 P1 g2 P2
  refine ⟨⟨k1, ?_⟩, k2⟩
  rw [g2.fa 99 rfl]
  by_cases c : 0 ≤ x1.toInt ∧ x1.toInt ≤ 255 ∧ (i 6273).toInt < 120
  · rw [P1.2.1 ⟨c.1, c.2.1, c.2.2⟩]
    exact kBy_set h.2 c.1 c.2.1
  · rw [P1.2.2 (fun z => c ⟨z.1, z.2.1, z.2.2⟩)]
    exact h.2
end
section
/-! THE LAW BECOMES ANOTHER: the market stays alike -/
noncomputable def cLw (t : List Int32) (nn v : Int32) (i : Nat → Int32) (a : Nat → List Int32) (r : Nat → Nat) (i1 : Nat → Int32) (a1 : Nat → List Int32) (r1 : Nat → Nat) : Prop := ∃ st wi : List Int32, st.length = 121 ∧ wi.length = 121 ∧ ((cOk nn (cTxt t nn st wi) ∧ v = 1 ∧ i1 (64 * r1 0) = 1 ∧ (a1 (r1 0 + 1), a1 (r1 0 + 2), i1 (64 * r1 0 + 3)) = (cTxt t nn st wi).2.2) ∨ (¬ cOk nn (cTxt t nn st wi) ∧ v = -100 - (cTxt t nn st wi).1 ∧ r1 0 = r 0 ∧ i1 (64 * r 0) = i (64 * r 0) ∧ i1 (64 * r 0 + 3) = i (64 * r 0 + 3) ∧ a1 (r 0 + 1) = a (r 0 + 1) ∧ a1 (r 0 + 2) = a (r 0 + 2)))
noncomputable def rLw (t : List Int32) (nn v : Int32) (i : Nat → Int32) (a : Nat → List Int32) (i1 : Nat → Int32) (a1 : Nat → List Int32) : Prop := ∃ L A Y E : List Int32, (L.length = 200 ∧ A.length = 61 ∧ Y.length = 61 ∧ E.length = 61) ∧ ((rOk nn (rTxt t nn L A Y E) ∧ v = 1 ∧ i1 7431 = 1 ∧ i1 7432 = (rTxt t nn L A Y E).2.2.1 ∧ kCp (rTxt t nn L A Y E).2.2.2.1 (a1 120) (rTxt t nn L A Y E).2.2.1.toInt.toNat ∧ kCp (rTxt t nn L A Y E).2.2.2.2.1 (a1 121) (rTxt t nn L A Y E).2.2.1.toInt.toNat ∧ kCp (rTxt t nn L A Y E).2.2.2.2.2 (a1 122) (rTxt t nn L A Y E).2.2.1.toInt.toNat ∧ kCp (rTxt t nn L A Y E).2.1.2.2 (a1 123) (rTxt t nn L A Y E).2.1.2.1.toInt.toNat) ∨ (¬ rOk nn (rTxt t nn L A Y E) ∧ v = -100 - (rTxt t nn L A Y E).2.1.1 ∧ i1 7431 = i 7431 ∧ i1 7432 = i 7432 ∧ a1 120 = a 120 ∧ a1 121 = a 121 ∧ a1 122 = a 122 ∧ a1 123 = a 123))
section LW
variable {i i1 i2 : Nat → Int32} {a a1 a2 : Nat → List Int32} {q q1 q2 : Nat → List Int64} {r r1 r2 : Nat → Nat} {u1 u2 : Int32}
theorem kz86_0 (hI : kI i a q) (hr : kr r) (hB : kBy (a 99)) : km 57 86 [.ref 0] (ks i a q r) (kVI yw86_0 i a q r (fun v i1 a1 q1 r1 => (i1 6273).toInt = 0 ∧ cLw (a 99) (i 6273) v i a r i1 a1 r1)) := by
  have hcase : (r 2 = 10 ∧ r 0 = 100) ∨ (r 2 = 100 ∧ r 0 = 10) := by
    rcases hr.1 with h | h
    · exact Or.inr ⟨h.2, h.1⟩
    · exact Or.inl ⟨h.2, h.1⟩
  rcases hcase with ⟨hL, h0⟩ | ⟨hL, h0⟩
  · refine km_imp (ke86_0_L10 hI hr (a 99) (i 6273) rfl rfl hL hB) ?_
    rintro rv h1 ⟨v, i1, a1, q1, r1, e1, e2, g, hz, hc⟩
    refine ⟨v, i1, a1, q1, r1, e1, e2, kG_call (kG_self _ hI hr) g (by decide +kernel), hz, a 11, a 12, hI.2.1 11, hI.2.1 12, ?_⟩
    rcases hc with ⟨c1, c2, c3, c4, c5, c6⟩ | ⟨c1, c2, c3, c4⟩
    · exact Or.inl ⟨c1, c2, by rw [c3]; exact c5, by rw [c3]; exact c6⟩
    · exact Or.inr ⟨c1, c2, by rw [c3, h0], by rw [h0]; exact g.fi 6400 rfl, by rw [h0]; exact g.fi 6403 rfl, by rw [h0]; exact g.fa 101 rfl, by rw [h0]; exact g.fa 102 rfl⟩
  · refine km_imp (ke86_0_L100 hI hr (a 99) (i 6273) rfl rfl hL hB) ?_
    rintro rv h1 ⟨v, i1, a1, q1, r1, e1, e2, g, hz, hc⟩
    refine ⟨v, i1, a1, q1, r1, e1, e2, kG_call (kG_self _ hI hr) g (by decide +kernel), hz, a 101, a 102, hI.2.1 101, hI.2.1 102, ?_⟩
    rcases hc with ⟨c1, c2, c3, c4, c5, c6⟩ | ⟨c1, c2, c3, c4⟩
    · exact Or.inl ⟨c1, c2, by rw [c3]; exact c5, by rw [c3]; exact c6⟩
    · exact Or.inr ⟨c1, c2, by rw [c3, h0], by rw [h0]; exact g.fi 640 rfl, by rw [h0]; exact g.fi 643 rfl, by rw [h0]; exact g.fa 11 rfl, by rw [h0]; exact g.fa 12 rfl⟩
theorem kz159_116 (hI : kI i a q) (hr : kr r) (hE_code : kCode i a) (hB : kBy (a 119)) : km 55 159 [.ref 116] (ks i a q r) (kVI yw159_116 i a q r (fun v i1 a1 q1 r1 => ((i1 7429).toInt = 0 ∧ rLw (a 119) (i 7429) v i a i1 a1) ∧ kCode i1 a1)) := by
  refine km_imp (kf159_116 hI hr (a 119) (i 7429) rfl rfl hB) ?_
  rintro rv h1 ⟨v, i1, a1, q1, r1, e1, e2, g, h0, hc⟩
  have hb : (0 : Int) ≤ (i 7429).toInt ∧ (i 7429).toInt ≤ 120 := hI.1 7429
  refine ⟨v, i1, a1, q1, r1, e1, e2, kG_call (kG_self _ hI hr) g (by decide +kernel), ⟨h0, a 127, a 124, a 125, a 126, ⟨hI.2.1 127, hI.2.1 124, hI.2.1 125, hI.2.1 126⟩, hc⟩, ?_⟩
  rcases hc with ⟨c1, c2, c3, c4, c5, c6, c7, c8⟩ | ⟨c1, c2, c3, c4, c5, c6, c7, c8⟩
  · obtain ⟨_, s2, s3⟩ := sim_txt (t := a 119) (n := i 7429) (st := List.replicate 121 0) (wi := List.replicate 121 0) (L := a 127) (A := a 124) (Y := a 125) (E := a 126) hb.1 hb.2 List.length_replicate List.length_replicate (hI.2.1 127) (hI.2.1 124) (hI.2.1 125) (hI.2.1 126)
    obtain ⟨l, hl⟩ := s3 (s2.mpr c1)
    exact code_law hb.2 hl c4 c5 c6 c7 c8
  · exact kCode_of hE_code c4 c5 c6 c7 c8
set_option maxHeartbeats 4000000 in
theorem st_lawm (K : kI i a q ∧ kr r) (T : kTB i a) (h : kMar i a r) (g1 : kG yw86_0 i a q r i1 a1 q1 r1) (P1 : (i1 6273).toInt = 0 ∧ cLw (a 99) (i 6273) u1 i a r i1 a1 r1) (g2 : kG yw159_116 i1 a1 q1 r1 i2 a2 q2 r2) (P2 : (i2 7429).toInt = 0 ∧ rLw (a1 119) (i1 7429) u2 i1 a1 i2 a2) : (kTB i2 a2 ∧ kMar i2 a2 r2) ∧ u1 = u2 := by
  obtain ⟨hI, hr⟩ := K
  obtain ⟨h1, h2, h3, h4, h5, h6, h7, h8⟩ := h
  have hb : (0 : Int) ≤ (i 6273).toInt ∧ (i 6273).toInt ≤ 120 := hI.1 6273
  have tb : kTB i2 a2 := by
    refine ⟨st_tlaw T.1 g1 P1.1 g2 P2.1, ?_⟩
    rw [g2.fa 99 rfl, g1.fa 99 rfl]
    exact T.2
  have en : i1 7429 = i 6273 := by
    rw [g1.fi 7429 rfl]
    exact kj_v (by have := T.1.1; omega)
  obtain ⟨st, wi, l1, l2, hc⟩ := P1.2
  obtain ⟨L, A, Y, E, ⟨l3, l4, l5, l6⟩, hd⟩ := P2.2
  rw [g1.fa 119 rfl, ← T.1.2, en] at hd
  obtain ⟨s1, s2, s3⟩ := sim_txt (t := a 99) hb.1 hb.2 l1 l2 l3 l4 l5 l6
  have er : r2 0 = r1 0 := g2.fr 0 rfl
  have hr1 := g1.R
  have fA : ∀ p : Nat, p = r1 0 + 1 ∨ p = r1 0 + 2 → a2 p = a1 p := fun p hp => by
    rcases hr1.1 with ⟨hz, _⟩ | ⟨hz, _⟩ <;> rw [hz] at hp <;> rcases hp with e | e <;> subst e <;> exact g2.fa _ rfl
  have fI : ∀ p : Nat, p = 64 * r1 0 ∨ p = 64 * r1 0 + 3 → i2 p = i1 p := fun p hp => by
    rcases hr1.1 with ⟨hz, _⟩ | ⟨hz, _⟩ <;> rw [hz] at hp <;> rcases hp with e | e <;> subst e <;> exact g2.fi _ rfl
  have fin : kLaw i2 a2 r2 → kMar i2 a2 r2 := fun lw => ⟨kCn_fr g2 (by decide +kernel) (kCn_fr g1 (by decide +kernel) h1), kMk_fr g2 (by decide +kernel) (kMk_fr g1 (by decide +kernel) h2), kNr_fr g2 (by decide +kernel) (kNr_fr g1 (by decide +kernel) h3), kGr_fr g2 (by decide +kernel) (kGr_fr g1 (by decide +kernel) h4), kLd_fr g2 (by decide +kernel) (kLd_fr g1 (by decide +kernel) h5), kZe_fr g2 (by decide +kernel) (kZe_fr g1 (by decide +kernel) h6), lw, kIm_fr g2 (by decide +kernel) (kIm_fr g1 (by decide +kernel) h8)⟩
  rcases hc with ⟨c1, c2, c3, c4⟩ | ⟨c1, c2, c3, c4, c5, c6, c7⟩
  · rcases hd with ⟨d1, d2, d3, d4, d5, d6, d7, d8⟩ | ⟨d1, _⟩
    · refine ⟨⟨tb, fin ⟨?_, fun _ => ?_⟩⟩, by rw [c2, d2]⟩
      · rw [er, fI _ (Or.inl rfl), c3, d3]
      · obtain ⟨l, hl⟩ := s3 c1
        rw [er, fI _ (Or.inr rfl), fA _ (Or.inl rfl), fA _ (Or.inr rfl)]
        intro stk w pu hh c o d hs
        have k := law_same (nm := [w, pu, hh, c, o, d]) (stk := stk) hb.2 hl d5 d6 d7 d8 hs
        rw [show a1 (r1 0 + 1) = (cTxt (a 99) (i 6273) st wi).2.2.1 from congrArg (fun z : List Int32 × List Int32 × Int32 => z.1) c4, show a1 (r1 0 + 2) = (cTxt (a 99) (i 6273) st wi).2.2.2.1 from congrArg (fun z : List Int32 × List Int32 × Int32 => z.2.1) c4, show i1 (64 * r1 0 + 3) = (cTxt (a 99) (i 6273) st wi).2.2.2.2 from congrArg (fun z : List Int32 × List Int32 × Int32 => z.2.2) c4]
        unfold wl
        rw [d4]
        exact k
    · exact absurd (s2.mp c1) d1
  · rcases hd with ⟨d1, _⟩ | ⟨d1, d2, d3, d4, d5, d6, d7, d8⟩
    · exact absurd (s2.mpr d1) c1
    · refine ⟨⟨tb, fin ⟨?_, fun z => ?_⟩⟩, by rw [c2, d2, s1]⟩
      · rw [er, fI _ (Or.inl rfl), c3, c4, d3, g1.fi 7431 rfl]
        exact h7.1
      · rw [er, fI _ (Or.inr rfl), fA _ (Or.inl rfl), fA _ (Or.inr rfl), c3, c5, c6, c7]
        unfold wl
        rw [d4, d5, d6, d7, d8, g1.fi 7432 rfl, g1.fa 120 rfl, g1.fa 121 rfl, g1.fa 122 rfl, g1.fa 123 rfl]
        refine h7.2 ?_
        rw [← g1.fi 7431 rfl, ← d3]
        exact z
end LW
end
section
/-! THE MARKETS AT THE BEGINNING -/
theorem kst_z (p j : Nat) (h : p ≠ 136) : (kst_a p).getD j 0 = 0 := by
  have ep : kst_a p = List.replicate (kL p) 0 := by
    unfold kst_a
    cases eb : Nat.beq p 136 with
    | true => exact absurd (Nat.eq_of_beq_eq_true eb) h
    | false => rfl
  rw [ep, kst_g0]
theorem kst_mar : kMar kst_i kst_a kst_r := by
  have z := kst_z
  have zz : ∀ p j n m : Nat, p ≠ 136 → n ≠ 136 → (kst_a p).getD j 0 = (kst_a n).getD m 0 := fun p j n m h1 h2 => (z p j h1).trans (z n m h2).symm
  refine ⟨by decide +kernel, ⟨fun j _ => zz _ _ _ _ (by decide) (by decide), ?_, ?_, fun j _ => zz _ _ _ _ (by decide) (by decide), ?_, fun j hj => ?_⟩, ⟨fun j _ => zz _ _ _ _ (by decide) (by decide), fun j _ => ⟨zz _ _ _ _ (by decide) (by decide), zz _ _ _ _ (by decide) (by decide), zz _ _ _ _ (by decide) (by decide)⟩, ?_, ?_, ?_⟩, ⟨?_, ?_, ⟨?_, ?_, ?_⟩, fun j hj => ?_⟩, by decide +kernel, fun j _ _ => ⟨z _ _ (by decide), z _ _ (by decide)⟩, ⟨by decide +kernel, fun h => absurd (by decide +kernel : (kst_i 7431).toInt = 0) h⟩, ⟨by decide +kernel, fun h => absurd (by decide +kernel : (kst_i 2).toInt = 0) h⟩⟩
  · rw [z 118 8 (by decide)]; decide +kernel
  · rw [z 118 9 (by decide)]; decide +kernel
  · rw [z 118 18 (by decide)]; decide +kernel
  · have e : (kst_i 450).toInt = 0 := by decide +kernel
    omega
  · show kst_i 70 = kst_i 7426
    decide +kernel
  · show kst_i 71 = kst_i 7427
    decide +kernel
  · show kst_i 72 = (kst_a 118).getD 8 0
    rw [z 118 8 (by decide)]; decide +kernel
  · show kst_i 5700 = kst_i 7452
    decide +kernel
  · show kst_i 5701 = kst_i 7453
    decide +kernel
  · show 0 ≤ (kst_i 7453).toInt
    decide +kernel
  · show (kst_i 7453).toInt ≤ (kst_i 7452).toInt
    decide +kernel
  · show (kst_i 7452).toInt ≤ 40
    decide +kernel
  · have e : (kst_i 7452).toInt = 0 := by decide +kernel
    have hj : (j : Int) < (kst_i 7452).toInt := hj
    omega
theorem mar_3rd {i : Nat → Int32} {a : Nat → List Int32} {q : Nat → List Int64} {r : Nat → Nat} (hI : kI i a q) (h : kMar i a r) : ((1 : Int) ≤ (i 70).toInt) ∧ ((i 70).toInt ≤ 5) := by
  rw [show i 70 = i 7426 from h.2.2.1.2.2.1]
  exact kI_3rd hI
end
section
/-! A ROW IN THOUGHT, PURELY, AS THE REFERENCE HAS IT: THIRD, DOGS, told, the law, the ways; now, payer, paid, bought, lacking, flows -/
abbrev gK : Type := Int32 × Int32 × Int32 × (List Int32 → Int32) × List Int32
abbrev gS : Type := List Int32 × Int32 × Int32 × Int32 × Int32 × List Int32
noncomputable def gBy (K : gK) (N N1 : List Int32) (c : Int32) : Int32 := kBuy K.2.2.1 K.2.2.2.1 (K.2.2.2.2.getD c.toNatClampNeg 0) (N.getD c.toNatClampNeg 0) (K.2.2.2.2.getD (8 + c).toNatClampNeg 0) (N1.getD (9 : Int32).toNatClampNeg 0) (N1.getD (10 + c).toNatClampNeg 0) (N1.getD (8 : Int32).toNatClampNeg 0)
noncomputable def gCo (K : gK) (c : Int32) (N : List Int32) (P : kSt) : gS := (sCome c (gBy K N P.1 c) P.1, P.2.1, P.2.2.1, gBy K N P.1 c, P.2.2.2.1, P.2.2.2.2)
noncomputable def gIn (K : gK) (c : Int32) (S : gS) : gS := if (K.2.2.2.2.getD (16 + c).toNatClampNeg 0).toInt = 1 ∧ K.2.1.toInt = 0 then (S.1, 8, 0, 0, S.2.2.2.2) else gCo K c S.1 (gPaid K.1 c S.1 S.2.2.2.2.1 S.2.2.2.2.2)
noncomputable def gAt (K : gK) (L : List Int32) (S : gS) : Nat → gS
  | 0 => S
  | k + 1 => gIn K (L.getD k 0) (gAt K L S k)
noncomputable def gEve (S : gS) : gS := (sEnds S.1, S.2)
/-- the k-th coming's payer, coins, what he buys: for all ahead of n -/
noncomputable def gOp (K : gK) (L : List Int32) (S : gS) (n : Int) (A B C : List Int32) : Prop := ∀ j : Nat, (j : Int) < n → A.getD j 0 = (gAt K L S (j + 1)).2.1 ∧ B.getD j 0 = (gAt K L S (j + 1)).2.2.1 ∧ C.getD j 0 = (gAt K L S (j + 1)).2.2.2.1
noncomputable def gEq (S S1 : gS) : Prop := S.1 = S1.1 ∧ S.2.2.2.2 = S1.2.2.2.2
section TP
variable {K : gK} {L L1 : List Int32} {S S1 : gS} {c : Int32}
theorem gIn_eq (h : gEq S S1) : gIn K c S = gIn K c S1 := by
  obtain ⟨N, p, d, b, Z⟩ := S
  obtain ⟨N1, p1, d1, b1, Z1⟩ := S1
  obtain ⟨h1, h2⟩ := h
  dsimp only at h1 h2
  subst h1
  subst h2
  rfl
theorem gAt_eq (h : gEq S S1) : ∀ k : Nat, gEq (gAt K L S k) (gAt K L S1 k) ∧ (1 ≤ k → gAt K L S k = gAt K L S1 k)
  | 0 => ⟨h, fun z => absurd z (by decide)⟩
  | k + 1 => by
    have e : gAt K L S (k + 1) = gAt K L S1 (k + 1) := gIn_eq (gAt_eq h k).1
    rw [e]
    exact ⟨⟨rfl, rfl⟩, fun _ => rfl⟩
theorem gAt_next {i1 : Nat → Int32} {T : gS} {x k k1 : Int32} (h : T = gIn K x (gAt K L S k.toInt.toNat)) (hx : x = L.getD k.toNatClampNeg 0) (h0 : 0 ≤ k.toInt) (h1 : k1.toInt = k.toInt + 1) (_ : i1 = i1) : T = gAt K L S k1.toInt.toNat := by
  rw [h, hx, show k1.toInt.toNat = k.toInt.toNat + 1 by omega]
  rfl
theorem gAt_k0 {k : Int32} (h : k.toInt = 0) : gAt K L S k.toInt.toNat = S := by
  rw [h]
  rfl
theorem gOp_0 {A B C : List Int32} {n : Int} (h : n = 0) : gOp K L S n A B C := fun j hj => by omega
theorem gOp_step {A B C A1 B1 C1 : List Int32} {k k1 p d b : Int32} {T : gS} {n : Nat} (h : gOp K L S k.toInt A B C) (lA : A.length = n) (lB : B.length = n) (lC : C.length = n) (h0 : 0 ≤ k.toInt) (hn : k.toInt < (n : Int)) (h1 : k1.toInt = k.toInt + 1) (hT : T = gAt K L S k1.toInt.toNat) (eA : A1 = A.set k.toNatClampNeg p) (eB : B1 = B.set k.toNatClampNeg d) (eC : C1 = C.set k.toNatClampNeg b) (ep : p = T.2.1) (ed : d = T.2.2.1) (eb : b = T.2.2.2.1) : gOp K L S k1.toInt A1 B1 C1 := by
  have tk := Int32.toNat_toInt k
  subst eA
  subst eB
  subst eC
  intro j hj
  rw [kset_gI (by omega), kset_gI (by omega), kset_gI (by omega)]
  by_cases e : j = k.toNatClampNeg
  · rw [if_pos e, if_pos e, if_pos e, ep, ed, eb, hT, show k1.toInt.toNat = j + 1 by omega]
    exact ⟨rfl, rfl, rfl⟩
  · rw [if_neg e, if_neg e, if_neg e]
    exact h j (by omega)
end TP
/-! CLASS AND REFERENCE: what both know now; the class's market in thought beside what the reference has -/
noncomputable def kNoW (i : Nat → Int32) (a : Nat → List Int32) (r : Nat → Nat) : Prop := i 64 = i 7424 ∧ kMk i a ∧ kNr i a ∧ kLaw i a r
noncomputable def gKn (i : Nat → Int32) (a : Nat → List Int32) : gK := (i 7426, i 7427, i 7431, wl i a, a 117)
noncomputable def gN (S : gS) : kSt := (S.1, S.2.1, S.2.2.1, S.2.2.2.2.1, S.2.2.2.2.2)
noncomputable def kThC (i : Nat → Int32) (a : Nat → List Int32) (r : Nat → Nat) : Prop := i 3200 = i 64 ∧ i 3206 = i 70 ∧ i 3207 = i 71 ∧ a 52 = a 3 ∧ a 53 = a 4 ∧ a 54 = a 5 ∧ r 1 = r 0
/-! nobody pays himself -/
noncomputable def kDg (T : kCt) : Prop := ∀ u : Nat, u < 8 → (T.2.2.2.2.2.2.2 u).getD u 0 = 0
noncomputable def mFd (T : kCt) (S : kSt) : Prop := mF T S ∧ kDg T
theorem getD_set_ne {l : List Int32} {j m : Nat} {x : Int32} (h : m ≠ j) : (l.set j x).getD m 0 = l.getD m 0 := by
  rw [List.getD_eq_getElem?_getD, List.getD_eq_getElem?_getD, List.getElem?_set_ne (fun e => h e.symm)]
theorem cPay_dg {b c : Int32} {T : kCt} (h0 : 0 ≤ c.toInt) (h : kDg T) : kDg (cPay b c T) := by
  unfold cPay
  by_cases q : (T.2.1.getD 0 0).toInt ≠ c.toInt ∧ 0 ≤ (T.2.1.getD 0 0).toInt ∧ (T.2.1.getD 0 0).toInt < b.toInt
  · rw [if_pos q]
    intro u hu
    have tc := Int32.toNat_toInt c
    have tw := Int32.toNat_toInt (T.2.1.getD 0 0)
    show (bif Nat.beq u (T.2.1.getD 0 0).toNatClampNeg then (T.2.2.2.2.2.2.2 u).set c.toNatClampNeg ((T.2.2.2.2.2.2.2 u).getD c.toNatClampNeg 0 + cCoin T) else T.2.2.2.2.2.2.2 u).getD u 0 = 0
    cases e : Nat.beq u (T.2.1.getD 0 0).toNatClampNeg with
    | false => exact h u hu
    | true =>
      have e := Nat.eq_of_beq_eq_true e
      show ((T.2.2.2.2.2.2.2 u).set c.toNatClampNeg ((T.2.2.2.2.2.2.2 u).getD c.toNatClampNeg 0 + cCoin T)).getD u 0 = 0
      rw [getD_set_ne (by omega)]
      exact h u hu
  · rw [if_neg q]
    exact h
theorem cPaid_dg {b t3 c : Int32} (h0 : 0 ≤ c.toInt) : ∀ (n : Nat) {T : kCt}, kDg T → kDg (cPaid b t3 c n T)
  | 0, _, h => h
  | n + 1, T, h => by
    unfold cPaid
    by_cases q : t3.toInt ≤ T.1.toInt
    · rw [if_pos q]
      exact cPaid_dg h0 n (cPay_dg h0 h)
    · rw [if_neg q]
      exact h
noncomputable def kThm (i : Nat → Int32) (a : Nat → List Int32) (r : Nat → Nat) (S : gS) : Prop := kThC i a r ∧ i 3216 = S.2.2.2.1 ∧ (∃ L0 : List Int32, mP (i 64) 0 L0 (a 55) (i 3208) (i 3209) (cT 50 i a) (gN S)) ∧ mFd (cT 50 i a) (gN S)
noncomputable def kRow (i : Nat → Int32) (a : Nat → List Int32) : Prop := ∀ j : Nat, (j : Int) < (i 3138).toInt → 0 ≤ ((a 74).getD j 0).toInt ∧ ((a 74).getD j 0).toInt < (i 64).toInt
theorem kUn_sub {w : kW} {F A R F1 A1 R1 : List Nat} (h : kUn w F A R = true) (hF : ∀ k ∈ F1, k ∈ F) (hA : ∀ k ∈ A1, k ∈ A) (hR : ∀ k ∈ R1, k ∈ R) : kUn w F1 A1 R1 = true := by
  obtain ⟨f1, f2, f3⟩ := kUn_all h
  unfold kUn
  simp only [Bool.and_eq_true, List.all_eq_true, Bool.not_eq_true']
  exact ⟨fun k hk => f1 k (hF k hk), fun k hk => f2 k (hA k hk), fun k hk => f3 k (hR k hk)⟩
noncomputable def nwF : List Nat := [64, 72, 73, 450, 7424, 70, 71, 7426, 7427, 7431, 7432, 640, 643, 6400, 6403]
noncomputable def nwA : List Nat := [2, 3, 4, 5, 6, 8, 9, 117, 118, 120, 121, 122, 123, 11, 12, 101, 102]
section TH
variable {w : kW} {i i1 : Nat → Int32} {a a1 : Nat → List Int32} {q q1 : Nat → List Int64} {r r1 : Nat → Nat} {S : gS} {x1 v : Int32}
theorem kNoW_fr (g : kG w i a q r i1 a1 q1 r1) (f : kUn w nwF nwA [0] = true) (hr : kr r) (h : kNoW i a r) : kNoW i1 a1 r1 :=
  ⟨kCn_fr g (kUn_sub f (by decide) (by decide) (by decide)) h.1, kMk_fr g (kUn_sub f (by decide) (by decide) (by decide)) h.2.1, kNr_fr g (kUn_sub f (by decide) (by decide) (by decide)) h.2.2.1, kLaw_fr g (kUn_sub f (by decide) (by decide) (by decide)) hr h.2.2.2⟩
theorem kNoW_mar (h : kMar i a r) : kNoW i a r := ⟨h.1, h.2.1, h.2.2.1, h.2.2.2.2.2.2.1⟩
theorem gKn_fr (g : kG w i a q r i1 a1 q1 r1) (f : kUn w [7426, 7427, 7431, 7432] [117, 120, 121, 122, 123] [] = true) : gKn i1 a1 = gKn i a := by
  obtain ⟨f1, f2, _⟩ := kUn_all f
  unfold gKn wl
  rw [g.fi 7426 (f1 _ (by decide)), g.fi 7427 (f1 _ (by decide)), g.fi 7431 (f1 _ (by decide)), g.fi 7432 (f1 _ (by decide)), g.fa 117 (f2 _ (by decide)), g.fa 120 (f2 _ (by decide)), g.fa 121 (f2 _ (by decide)), g.fa 122 (f2 _ (by decide)), g.fa 123 (f2 _ (by decide))]
theorem kThm_c {T : gS} (h : kThm i a r S) (e : T = S) : kThm i a r T := by subst e; exact h
theorem kThm_pu (h : kThm i a r S) {j : Nat} (hj : j < 8) : (a 51).getD j 0 = S.1.getD j 0 := by
  obtain ⟨_, _, ⟨L0, hP⟩, _⟩ := h
  exact hP.1.1 j hj
theorem kRow_at {j : Int32} (h : kRow i a) (h0 : 0 ≤ j.toInt) (hj : j.toInt < (i 3138).toInt) : 0 ≤ ((a 74).getD j.toNatClampNeg 0).toInt ∧ ((a 74).getD j.toNatClampNeg 0).toInt < (i 64).toInt := h _ (by
  have := Int32.toNat_toInt j
  omega)
theorem kl_51 (hI : kI i a q) : (a 51).length = 8 := hI.2.1 51
theorem kl_55 (hI : kI i a q) : (a 55).length = 8 := hI.2.1 55
theorem kl_57 (hI : kI i a q) : (a 57).length = 5 := hI.2.1 57
theorem kl_58 (hI : kI i a q) : (a 58).length = 5 := hI.2.1 58
theorem kl_63 (hI : kI i a q) : (a 63).length = 5 := hI.2.1 63
theorem kl_65 (hI : kI i a q) : ∀ u : Nat, u < 8 → (a (50 + 15 + u)).length = 8
  | 0, _ => hI.2.1 65
  | 1, _ => hI.2.1 66
  | 2, _ => hI.2.1 67
  | 3, _ => hI.2.1 68
  | 4, _ => hI.2.1 69
  | 5, _ => hI.2.1 70
  | 6, _ => hI.2.1 71
  | 7, _ => hI.2.1 72
  | u + 8, h => absurd h (by omega)
theorem th_len (hI : kI i a q) : mLen (cT 50 i a) := by
  refine ⟨kl_57 hI, kl_58 hI, kl_51 hI, kl_63 hI, fun u hu => ?_⟩
  show (cRow 50 a u).length = 8
  rw [cRow_lt hu]
  exact kl_65 hI u hu
theorem th_buy {pu c o d : Int32} {N N1 : List Int32} (hI : kI i a q) (hr : kr r) (hN : kNr i a) (hL : kLaw i a r) (h0 : 0 ≤ x1.toInt) (h8 : x1.toInt < 8) (ep : pu = N.getD x1.toNatClampNeg 0) (e9 : N1.getD 9 0 = c) (e10 : N1.getD (10 + x1.toNatClampNeg) 0 = o) (e8 : N1.getD 8 0 = d) :
    cBuyV (i (64 * r 0)) (a (r 0 + 1)) (a (r 0 + 2)) (a (r 0 + 3)) (i (64 * r 0 + 3)) ((a 3).getD x1.toNatClampNeg 0) pu ((a 4).getD x1.toNatClampNeg 0) c o d = gBy (gKn i a) N N1 x1 := by
  have t0 := Int32.toNat_toInt x1
  obtain ⟨q1, q2, q3⟩ := ix_16 h0 h8
  obtain ⟨w1, w2, _⟩ := hN.2.1 x1.toNatClampNeg (by omega)
  have w1 : (a 3).getD x1.toNatClampNeg 0 = (a 117).getD x1.toNatClampNeg 0 := w1
  have w2 : (a 4).getD x1.toNatClampNeg 0 = (a 117).getD (8 + x1.toNatClampNeg) 0 := w2
  have hs : (a (r 0 + 3)).length = 121 := by
    rcases hr.1 with ⟨hz, _⟩ | ⟨hz, _⟩
    · rw [hz]; exact hI.2.1 13
    · rw [hz]; exact hI.2.1 103
  rw [kBuy_c (LV := wl i a) (fun z => hL.2 (by rw [← hL.1]; exact z)) hs]
  unfold gBy gKn
  dsimp only
  rw [hL.1, (by decide : (9 : Int32).toNatClampNeg = 9), (by decide : (8 : Int32).toNatClampNeg = 8), q2, q3, e8, e9, e10, w1, w2, ep]
end TH
/-! what a purse of flows says in thought -/
/-! rows of flow made nothing -/
noncomputable def kFz (a : Nat → List Int32) (m : Int) : Prop := ∀ u c : Nat, u < 8 → c < 8 → (8 * (u : Int) + (c : Int)) < m → (a (50 + 15 + u)).getD c 0 = 0
noncomputable def kZ8 (a : Nat → List Int32) : Prop := ∀ u : Nat, u < 8 → a (50 + 15 + u) = List.replicate 8 0
theorem kFz_0 {a : Nat → List Int32} {m : Int} (h : m ≤ 0) : kFz a m := fun u c _ _ hm => by omega
theorem kFz_le {a : Nat → List Int32} {m m1 : Int} (h : kFz a m) (hm : m1 ≤ m) : kFz a m1 := fun u c hu hc h1 => h u c hu hc (by omega)
theorem kFz_step {a a1 : Nat → List Int32} {x y y1 : Int32} {m n : Nat} (h : kFz a (8 * x.toInt + y.toInt)) (hl : (a (50 + 15 + m)).length = n) (hn : n = 8) (hx : x.toInt = (m : Int)) (h0 : 0 ≤ y.toInt) (h8 : y.toInt < 8) (h1 : y1.toInt = y.toInt + 1) (e : a1 (50 + 15 + m) = (a (50 + 15 + m)).set y.toNatClampNeg 0) (f : ∀ k, k ≠ 50 + 15 + m → a1 k = a k) : kFz a1 (8 * x.toInt + y1.toInt) := by
  have ty := Int32.toNat_toInt y
  intro u c hu hc hm
  by_cases cu : u = m
  · subst cu
    rw [e, kset_gI (by omega)]
    by_cases cc : c = y.toNatClampNeg
    · rw [if_pos cc]
    · rw [if_neg cc]
      exact h u c hu hc (by omega)
  · rw [f (50 + 15 + u) (by omega)]
    exact h u c hu hc (by omega)
theorem kFz_all {a : Nat → List Int32} {m : Int} (h : kFz a m) (hm : 64 ≤ m) (hl : ∀ u : Nat, u < 8 → (a (50 + 15 + u)).length = 8) : kZ8 a := by
  intro u hu
  refine List.ext_getElem (by rw [hl u hu, List.length_replicate]) (fun j h1 h2 => ?_)
  rw [hl u hu] at h1
  have := h u j hu h1 (by omega)
  rw [List.getD_eq_getElem?_getD, List.getElem?_eq_getElem (by rw [hl u hu]; exact h1)] at this
  rw [List.getElem_replicate]
  exact this
theorem cpy_alw {l g : List Int32} {n : Nat} (hl : l.length = n) (hg : g.length = n) : mi_cpy l g 0 0 n = l := by
  refine List.ext_getElem (by rw [mi_cpy_len (by omega) (by omega)]; omega) (fun j h1 h2 => ?_)
  have := cpy_g (l := l) (g := g) (sp := 0) (dp := 0) (n := n) (j := j) (by omega) (by omega)
  rw [if_pos (by omega), List.getD_eq_getElem?_getD, List.getD_eq_getElem?_getD, List.getElem?_eq_getElem h1, List.getElem?_eq_getElem (by omega)] at this
  have e : 0 + (j - 0) = j := by omega
  simp only [e] at this
  exact this
end
section
theorem kow8 : (8 : Int32).toInt = 8 := by decide
theorem kow0 : (0 : Int32).toInt = 0 := by decide
theorem kow1 : (1 : Int32).toInt = 1 := by decide
theorem kow5 : (5 : Int32).toInt = 5 := by decide
theorem kow2 : (2 : Int32).toInt = 2 := by decide
theorem kow3 : (3 : Int32).toInt = 3 := by decide
theorem kow4 : (4 : Int32).toInt = 4 := by decide
theorem kow121 : (121 : Int32).toInt = 121 := by decide
theorem kow6 : (6 : Int32).toInt = 6 := by decide
theorem ow4 {a0 : Int} (h0 : (0 : Int) ≤ a0) : (0 : Int) ≤ a0 := oz3 h0
theorem ow5 {a0 a1 : Int} (h0 : a0 ≤ 8) (h1 : a1 < a0) : a1 < 8 := oz974 h0 h1
theorem ow6 {a0 a1 : Int} (h0 : a0 ≤ a1) (h1 : a0 = 5) : 5 ≤ a1 := oi6 h0 h1
theorem ow7 {a0 : Int} (h0 : a0 ≤ 7) : a0 < 8 := oz1032 h0
theorem ow8 {a0 a1 : Int} (h0 : a0 = a1) (h1 : (0 : Int) ≤ a0) (h2 : a1 = 0) : a0 = 0 := od48 h0 h1 h2
theorem ow9 {a0 : Int} (h0 : a0 = 0) : (0 : Int) ≤ a0 := oz46 h0
theorem ow10 {a0 : Int} (h0 : a0 = 0) : a0 < 6 := oz255 h0
theorem ow11 {a0 : Int} (h0 : a0 = 1) : (0 : Int) ≤ a0 := oz246 h0
theorem ow12 {a0 : Int} (h0 : a0 = 1) : a0 < 6 := oz247 h0
theorem ow13 {a0 : Int} (h0 : a0 = 2) : (0 : Int) ≤ a0 := oz256 h0
theorem ow14 {a0 : Int} (h0 : a0 = 2) : a0 < 6 := oz257 h0
theorem ow15 {a0 : Int} (h0 : a0 = 3) : (0 : Int) ≤ a0 := oz260 h0
theorem ow16 {a0 : Int} (h0 : a0 = 3) : a0 < 6 := oz261 h0
theorem ow17 {a0 : Int} (h0 : a0 = 4) : (0 : Int) ≤ a0 := oz262 h0
theorem ow18 {a0 : Int} (h0 : a0 = 4) : a0 < 6 := oz263 h0
theorem ow19 {a0 : Int} (h0 : a0 = 5) : (0 : Int) ≤ a0 := oz264 h0
theorem ow20 {a0 : Int} (h0 : a0 = 5) : a0 < 6 := oz265 h0
theorem ow21 {a0 : Int} (h0 : a0 = 0) : a0 ≤ 121 := oz1033 h0
theorem ow22 {a0 a1 : Int} (h0 : a0 ≤ a1) (h1 : a0 = 121) : 121 ≤ a1 := od2 h0 h1
theorem ow23 {a0 a1 a2 : Int} (h0 : a0 < a1) (h1 : a1 = 0) : ¬ (0 ≤ a0 ∧ a0 < a2) := od3 h0 h1
theorem ow24 {a0 a1 a2 : Int} (h0 : a0 ≤ a1) (h1 : a0 = a2) : ¬ (0 ≤ a1 ∧ a1 < a2) := od4 h0 h1
theorem ow25 {a0 a1 : Int} (h0 : a0 ≤ a1) (h1 : a0 = 0) : (0 : Int) ≤ a1 := oz389 h0 h1
theorem ow26 {a0 a1 : Int} (h0 : a0 < a1) (h1 : a1 ≤ 121) : a0 < 121 := oz1034 h0 h1
theorem ow27 {a0 a1 a2 : Int} (h0 : a0 ≤ a1) (h1 : a0 = 0) (h2 : a2 = 1) : (-2147483648 : Int) ≤ a1 + a2 := oz950 h0 h1 h2
theorem ow28 {a0 a1 a2 : Int} (h0 : a0 < a1) (h1 : a1 ≤ 121) (h2 : a2 = 1) : a0 + a2 ≤ 2147483647 := oz1035 h0 h1 h2
theorem ow29 {a0 a1 : Int} (h0 : a0 ≤ a1) (h1 : a0 = 121) : ((a1 ≤ 120) ∧ (a1 = (a1 + 1))) ∨ (((121 : Int) ≤ a1) ∧ (a1 = a1)) := od9 h0 h1
theorem ow30 {a0 a1 : Int} (h0 : a0 ≤ a1) (h1 : a0 = 121) : ¬ (a1 ≤ 120) := od10 h0 h1
theorem ow31 {a0 a1 : Int} (h0 : a0 < a1) (h1 : a1 = 121) : a0 < 121 := oz912 h0 h1
theorem ow32 {a0 a1 : Int} (h0 : (0 : Int) ≤ a0) (h1 : a1 = 1) : (-2147483648 : Int) ≤ a0 + a1 := oz12 h0 h1
theorem ow33 {a0 a1 : Int} (h0 : a0 ≤ 121) (h1 : a1 = 1) : a0 + a1 ≤ 2147483647 := oz913 h0 h1
theorem ow34 {a0 a1 a2 : Int} (h0 : (0 : Int) ≤ a0) (h1 : a1 = a0 + a2) (h2 : a2 = 1) : (0 : Int) ≤ a1 := oz14 h0 h1 h2
theorem ow35 {a0 a1 a2 a3 : Int} (h0 : a0 < a1) (h1 : a2 = a0 + a3) (h2 : a1 = 121) (h3 : a3 = 1) : a2 ≤ 121 := oz914 h0 h1 h2 h3
theorem ow36 {a0 a1 a2 a3 : Int} (h0 : a0 < a1) (h1 : a2 = a0 + a3) (h2 : a1 = 121) (h3 : a3 = 1) : ((a0 ≤ 120) ∧ (a2 = (a0 + 1))) ∨ (((121 : Int) ≤ a0) ∧ (a2 = a0)) := od17 h0 h1 h2 h3
theorem ow37 {a0 a1 : Int} (h0 : a0 < a1) (h1 : a1 = 121) : a0 ≤ 120 := od18 h0 h1
theorem ow38 {a0 a1 a2 : Int} (h0 : a0 < a1) (h1 : a1 = 121) (h2 : a2 = 1) : a0 + a2 ≤ 2147483647 := oz1036 h0 h1 h2
theorem ow39 {a0 a1 a2 : Int} (h0 : a0 < a1) (h1 : a1 = a2) : a0 < a2 := od20 h0 h1
theorem ow40 {a0 a1 a2 : Int} (h0 : a0 = a1 + a2) (h1 : a2 = 1) : a0 = a1 + 1 := oz169 h0 h1
theorem ow41 {a0 : Int} (h0 : a0 = 0) : a0 = 0 := oz236 h0
theorem ow42 {a0 a1 a2 : Int} (h0 : a0 = a1 + a2) (h1 : a2 = 1) : (121 - a0) < (121 - a1) := oz1037 h0 h1
theorem ow43 {a0 a1 : Int} (h0 : a0 < a1) (h1 : a1 = 121) : (1 : Int) ≤ (121 - a0) := oz1038 h0 h1
theorem ow44 {a0 : Int} (h0 : a0 = 1) : a0 = 1 := oz1381 h0
theorem ow45 {a0 a1 : Int} (h0 : a0 < a1) (h1 : a1 = 6) : a0 < 6 := oz1039 h0 h1
theorem ow46 {a0 a1 a2 : Int} (h0 : a0 < a1) (h1 : a0 = 0) (h2 : a2 = 1) : (-2147483648 : Int) ≤ a1 - a2 := oz1040 h0 h1 h2
theorem ow47 {a0 a1 : Int} (h0 : a0 ≤ 121) (h1 : a1 = 1) : a0 - a1 ≤ 2147483647 := oz911 h0 h1
theorem ow48 {a0 a1 a2 a3 : Int} (h0 : a0 < a1) (h1 : a2 = a1 - a3) (h2 : a0 = 0) (h3 : a3 = 1) : (0 : Int) ≤ a2 := oz1041 h0 h1 h2 h3
theorem ow49 {a0 a1 a2 : Int} (h0 : a0 ≤ 121) (h1 : a1 = a0 - a2) (h2 : a2 = 1) : a1 ≤ 121 := oz1042 h0 h1 h2
theorem ow50 {a0 a1 a2 : Int} (h0 : a0 ≤ 121) (h1 : a1 = a0 - a2) (h2 : a2 = 1) : a1 < 121 := oz1043 h0 h1 h2
theorem ow51 {a0 a1 a2 a3 : Int} (h0 : a0 < a1) (h1 : a2 = a1 - a3) (h2 : a0 = 0) (h3 : a3 = 1) : (((1 : Int) ≤ a1) ∧ (a2 = (a1 - 1))) ∨ ((a1 ≤ 0) ∧ (a2 = a1)) := od32 h0 h1 h2 h3
theorem ow52 {a0 a1 : Int} (h0 : a0 < a1) (h1 : a0 = 0) : 1 ≤ a1 := od33 h0 h1
theorem ow53 {a0 a1 : Int} (h0 : a0 ≤ a1) (h1 : a1 = 0) : (((1 : Int) ≤ a0) ∧ (a0 = (a0 - 1))) ∨ ((a0 ≤ 0) ∧ (a0 = a0)) := od34 h0 h1
theorem ow54 {a0 a1 : Int} (h0 : a0 ≤ a1) (h1 : a1 = 0) : ¬ (1 ≤ a0) := od35 h0 h1
theorem ow55 {a0 : Int} (h0 : a0 = 2) : a0 = 2 := oz1411 h0
theorem ow56 {a0 : Int} (h0 : a0 = 3) : a0 = 3 := oz1421 h0
theorem ow57 {a0 : Int} (h0 : a0 = 33) : a0 = 33 := od38 h0
theorem ow58 {a0 : Int} (h0 : a0 = 126) : a0 = 126 := od39 h0
theorem ow60 {a0 : Int} (h0 : ¬ (a0 = 0)) : a0 ≠ 0 := oz1718 h0
theorem ow61 {a0 : Int} (h0 : ¬ (a0 = 0)) (h1 : ¬ (a0 = 1)) : a0 ≠ 1 := oz1719 h0 h1
theorem ow62 {a0 : Int} (h0 : ¬ (a0 = 0)) (h1 : ¬ (a0 = 1)) (h2 : ¬ (a0 = 2)) : a0 ≠ 2 := oz1720 h0 h1 h2
theorem ow63 {a0 : Int} (h0 : ¬ (a0 = 0)) (h1 : ¬ (a0 = 1)) (h2 : ¬ (a0 = 2)) (h3 : ¬ (a0 = 3)) : a0 ≠ 3 := od44 h0 h1 h2 h3
theorem ow64 {a0 : Int} (h0 : ¬ (a0 = 33)) : a0 ≠ 33 := od45 h0
theorem ow65 {a0 : Int} (h0 : ¬ (a0 = 126)) : a0 ≠ 126 := od46 h0
theorem ow66 {a0 a1 : Int} (h0 : a0 ≠ a1) (h1 : (0 : Int) ≤ a0) (h2 : a1 = 0) : ¬ (a0 = 0) := od60 h0 h1 h2
theorem ow67 {a0 a1 : Int} (h0 : a0 ≤ 8) (h1 : (0 : Int) ≤ a1) (h2 : a1 < a0) : ((0 : Int) ≤ a1) ∧ (a1 ≤ 7) := oz423 h0 h1 h2
theorem ow68 {a0 a1 : Int} (h0 : a0 ≤ a1) (h1 : a1 ≤ 4) (h2 : a0 = 5) : False := oc0 h0 h1 h2
theorem ow69 {a0 : Int} (h0 : a0 ≤ 4) : a0 < 5 := oc2 h0
theorem ow70 {a0 a1 : Int} (h0 : a0 ≤ 5) (h1 : a1 = 1) : a0 + a1 ≤ 2147483647 := oz323 h0 h1
theorem ow71 {a0 a1 a2 : Int} (h0 : a0 ≤ 4) (h1 : a1 = a0 + a2) (h2 : a2 = 1) : a1 ≤ 5 := oc6 h0 h1 h2
theorem ow72 {a0 a1 a2 : Int} (h0 : a0 = a1 + a2) (h1 : a2 = 1) : a0 = (a1 + 1) := oz748 h0 h1
theorem ow73 {a0 a1 a2 a3 : Int} (h0 : a0 ≤ a1) (h1 : a2 = a3) (h2 : a3 ≤ (5 - a1)) (h3 : a0 = 5) : a2 ≤ 4 := oi73 h0 h1 h2 h3
theorem ow74 {a0 : Int} (h0 : a0 = 0) : a0 < 5 := oz547 h0
theorem ow75 {a0 : Int} (h0 : a0 = 1) : a0 < 5 := oz548 h0
theorem ow78 {a0 a1 a2 a3 a4 : Int} (h0 : a0 ≠ a1) (h1 : (0 : Int) ≤ a2) (h2 : a2 < a3) (h3 : a1 = 0) : ((0 : Int) ≤ a2) ∧ (a2 < a3) ∧ (¬ ((a0 = 0) ∧ (a4 = 1))) := by omega
theorem ow79 {a0 a1 a2 a3 : Int} (h0 : a0 < a1) (h1 : a1 = a2) (h2 : a3 = a0) (h3 : a2 ≤ 5) : a3 ≤ 4 := oi79 h0 h1 h2 h3
theorem ow80 {a0 a1 : Int} (h0 : a0 ≤ a1) (h1 : (1 : Int) ≤ a0) (h2 : a1 = 0) : False := oc10 h0 h1 h2
theorem ow81 {a0 a1 : Int} (h0 : (1 : Int) ≤ a0) (h1 : a1 = 1) : (-2147483648 : Int) ≤ a0 - a1 := oz341 h0 h1
theorem ow82 {a0 a1 : Int} (h0 : a0 ≤ 5) (h1 : a1 = 1) : a0 - a1 ≤ 2147483647 := oz342 h0 h1
theorem ow83 {a0 a1 a2 : Int} (h0 : (1 : Int) ≤ a0) (h1 : a1 = a0 - a2) (h2 : a2 = 1) : (0 : Int) ≤ a1 := oz425 h0 h1 h2
theorem ow84 {a0 a1 a2 : Int} (h0 : a0 ≤ 5) (h1 : a1 = a0 - a2) (h2 : a2 = 1) : a1 ≤ 5 := oz1047 h0 h1 h2
theorem ow85 {a0 a1 a2 : Int} (h0 : a0 ≤ 5) (h1 : a1 = a0 - a2) (h2 : a2 = 1) : a2 + a1 ≤ 5 := oz1048 h0 h1 h2
theorem ow86 {a0 a1 a2 a3 : Int} (h0 : a0 ≤ 5) (h1 : a1 = a0 - a2) (h2 : a2 = 1) (h3 : a3 = 0) : a3 + a1 ≤ 5 := oz1049 h0 h1 h2 h3
theorem ow87 {a0 a1 a2 : Int} (h0 : a0 = a1 - a2) (h1 : a2 = 1) : a0 = (a1 - 1) := oc18 h0 h1
theorem ow88 {a0 : Int} (h0 : (1 : Int) ≤ a0) : (1 : Int) ≤ a0 := oz526 h0
theorem ow89 {a0 a1 : Int} (h0 : a0 = (a1 - 1)) : a0 = (a1 - 1) := oz376 h0
theorem ow90 {a0 a1 a2 : Int} (h0 : a0 = a1) : ¬ (a0 ≠ a1 ∧ 0 ≤ a0 ∧ a0 < a2) := oc21 h0
theorem ow91 {a0 a1 a2 : Int} (h0 : a0 ≠ a1) (h1 : a0 = a2) (h2 : a1 = 8) : ¬ (a2 = 8) := ob26 h0 h1 h2
theorem ow92 {a0 : Int} (h0 : a0 = 2) : a0 < 5 := oz549 h0
theorem ow94 {a0 a1 a2 a3 : Int} (h0 : a0 ≠ a1) (h1 : a2 = a3) (h2 : (0 : Int) ≤ a1) (h3 : a0 = 0) (h4 : (0 : Int) ≤ a0) (h5 : a0 < a2) : a0 ≠ a1 ∧ 0 ≤ a0 ∧ a0 < a3 := oc32 h0 h1 h2 h3 h4 h5
theorem ow95 {a0 : Int} (h0 : a0 = 0) (h1 : (0 : Int) ≤ a0) : a0 = ((0 : Nat) : Int) := oc33 h0 h1
theorem ow96 {a0 : Int} (h0 : a0 = 0) : a0 ≠ ((1 : Nat) : Int) := oc34 h0
theorem ow97 {a0 : Int} (h0 : a0 = 0) : a0 ≠ ((2 : Nat) : Int) := oc35 h0
theorem ow98 {a0 : Int} (h0 : a0 = 0) : a0 ≠ ((3 : Nat) : Int) := oc36 h0
theorem ow99 {a0 : Int} (h0 : a0 = 0) : a0 ≠ ((4 : Nat) : Int) := oc37 h0
theorem ow100 {a0 : Int} (h0 : a0 = 0) : a0 ≠ ((5 : Nat) : Int) := oc38 h0
theorem ow101 {a0 : Int} (h0 : a0 = 0) : a0 ≠ ((6 : Nat) : Int) := oc39 h0
theorem ow102 {a0 : Int} (h0 : a0 = 0) : a0 ≠ ((7 : Nat) : Int) := oc40 h0
theorem ow103 {a0 : Int} (h0 : a0 = 0) : a0 < 8 := oc41 h0
theorem ow104 {a0 a1 a2 a3 : Int} (h0 : a0 ≠ a1) (h1 : a2 = a3) (h2 : a0 = 1) (h3 : a0 < a2) : a0 ≠ a1 ∧ 0 ≤ a0 ∧ a0 < a3 := oc42 h0 h1 h2 h3
theorem ow105 {a0 : Int} (h0 : a0 = 1) : a0 ≠ ((0 : Nat) : Int) := oc43 h0
theorem ow106 {a0 : Int} (h0 : a0 = 1) : a0 = ((1 : Nat) : Int) := oc44 h0
theorem ow107 {a0 : Int} (h0 : a0 = 1) : a0 ≠ ((2 : Nat) : Int) := oc45 h0
theorem ow108 {a0 : Int} (h0 : a0 = 1) : a0 ≠ ((3 : Nat) : Int) := oc46 h0
theorem ow109 {a0 : Int} (h0 : a0 = 1) : a0 ≠ ((4 : Nat) : Int) := oc47 h0
theorem ow110 {a0 : Int} (h0 : a0 = 1) : a0 ≠ ((5 : Nat) : Int) := oc48 h0
theorem ow111 {a0 : Int} (h0 : a0 = 1) : a0 ≠ ((6 : Nat) : Int) := oc49 h0
theorem ow112 {a0 : Int} (h0 : a0 = 1) : a0 ≠ ((7 : Nat) : Int) := oc50 h0
theorem ow113 {a0 : Int} (h0 : a0 = 1) : a0 < 8 := oz1382 h0
theorem ow114 {a0 a1 a2 a3 : Int} (h0 : a0 ≠ a1) (h1 : a2 = a3) (h2 : a0 = 2) (h3 : a0 < a2) : a0 ≠ a1 ∧ 0 ≤ a0 ∧ a0 < a3 := oc52 h0 h1 h2 h3
theorem ow115 {a0 : Int} (h0 : a0 = 2) : a0 ≠ ((0 : Nat) : Int) := oc53 h0
theorem ow116 {a0 : Int} (h0 : a0 = 2) : a0 ≠ ((1 : Nat) : Int) := oc54 h0
theorem ow117 {a0 : Int} (h0 : a0 = 2) : a0 = ((2 : Nat) : Int) := oc55 h0
theorem ow118 {a0 : Int} (h0 : a0 = 2) : a0 ≠ ((3 : Nat) : Int) := oc56 h0
theorem ow119 {a0 : Int} (h0 : a0 = 2) : a0 ≠ ((4 : Nat) : Int) := oc57 h0
theorem ow120 {a0 : Int} (h0 : a0 = 2) : a0 ≠ ((5 : Nat) : Int) := oc58 h0
theorem ow121 {a0 : Int} (h0 : a0 = 2) : a0 ≠ ((6 : Nat) : Int) := oc59 h0
theorem ow122 {a0 : Int} (h0 : a0 = 2) : a0 ≠ ((7 : Nat) : Int) := oc60 h0
theorem ow123 {a0 : Int} (h0 : a0 = 2) : a0 < 8 := oz1410 h0
theorem ow124 {a0 a1 a2 a3 : Int} (h0 : a0 ≠ a1) (h1 : a2 = a3) (h2 : a0 = 3) (h3 : a0 < a2) : a0 ≠ a1 ∧ 0 ≤ a0 ∧ a0 < a3 := oc62 h0 h1 h2 h3
theorem ow125 {a0 : Int} (h0 : a0 = 3) : a0 ≠ ((0 : Nat) : Int) := oc64 h0
theorem ow126 {a0 : Int} (h0 : a0 = 3) : a0 ≠ ((1 : Nat) : Int) := oc65 h0
theorem ow127 {a0 : Int} (h0 : a0 = 3) : a0 ≠ ((2 : Nat) : Int) := oc66 h0
theorem ow128 {a0 : Int} (h0 : a0 = 3) : a0 = ((3 : Nat) : Int) := oc67 h0
theorem ow129 {a0 : Int} (h0 : a0 = 3) : a0 ≠ ((4 : Nat) : Int) := oc68 h0
theorem ow130 {a0 : Int} (h0 : a0 = 3) : a0 ≠ ((5 : Nat) : Int) := oc69 h0
theorem ow131 {a0 : Int} (h0 : a0 = 3) : a0 ≠ ((6 : Nat) : Int) := oc70 h0
theorem ow132 {a0 : Int} (h0 : a0 = 3) : a0 ≠ ((7 : Nat) : Int) := oc71 h0
theorem ow133 {a0 : Int} (h0 : a0 = 3) : a0 < 8 := oz1420 h0
theorem ow134 {a0 a1 a2 a3 : Int} (h0 : a0 ≠ a1) (h1 : a2 = a3) (h2 : a0 = 4) (h3 : a0 < a2) : a0 ≠ a1 ∧ 0 ≤ a0 ∧ a0 < a3 := oc73 h0 h1 h2 h3
theorem ow135 {a0 : Int} (h0 : a0 = 4) : a0 ≠ ((0 : Nat) : Int) := oc75 h0
theorem ow136 {a0 : Int} (h0 : a0 = 4) : a0 ≠ ((1 : Nat) : Int) := oc76 h0
theorem ow137 {a0 : Int} (h0 : a0 = 4) : a0 ≠ ((2 : Nat) : Int) := oc77 h0
theorem ow138 {a0 : Int} (h0 : a0 = 4) : a0 ≠ ((3 : Nat) : Int) := oc78 h0
theorem ow139 {a0 : Int} (h0 : a0 = 4) : a0 = ((4 : Nat) : Int) := oc79 h0
theorem ow140 {a0 : Int} (h0 : a0 = 4) : a0 ≠ ((5 : Nat) : Int) := oc80 h0
theorem ow141 {a0 : Int} (h0 : a0 = 4) : a0 ≠ ((6 : Nat) : Int) := oc81 h0
theorem ow142 {a0 : Int} (h0 : a0 = 4) : a0 ≠ ((7 : Nat) : Int) := oc82 h0
theorem ow143 {a0 : Int} (h0 : a0 = 4) : a0 < 8 := oz1445 h0
theorem ow144 {a0 a1 a2 a3 : Int} (h0 : a0 ≠ a1) (h1 : a2 = a3) (h2 : a0 = 5) (h3 : a0 < a2) : a0 ≠ a1 ∧ 0 ≤ a0 ∧ a0 < a3 := oc84 h0 h1 h2 h3
theorem ow145 {a0 : Int} (h0 : a0 = 5) : a0 ≠ ((0 : Nat) : Int) := oc86 h0
theorem ow146 {a0 : Int} (h0 : a0 = 5) : a0 ≠ ((1 : Nat) : Int) := oc87 h0
theorem ow147 {a0 : Int} (h0 : a0 = 5) : a0 ≠ ((2 : Nat) : Int) := oc88 h0
theorem ow148 {a0 : Int} (h0 : a0 = 5) : a0 ≠ ((3 : Nat) : Int) := oc89 h0
theorem ow149 {a0 : Int} (h0 : a0 = 5) : a0 ≠ ((4 : Nat) : Int) := oc90 h0
theorem ow150 {a0 : Int} (h0 : a0 = 5) : a0 = ((5 : Nat) : Int) := oc91 h0
theorem ow151 {a0 : Int} (h0 : a0 = 5) : a0 ≠ ((6 : Nat) : Int) := oc92 h0
theorem ow152 {a0 : Int} (h0 : a0 = 5) : a0 ≠ ((7 : Nat) : Int) := oc93 h0
theorem ow153 {a0 : Int} (h0 : a0 = 5) : a0 < 8 := oz1469 h0
theorem ow154 {a0 a1 a2 a3 : Int} (h0 : a0 ≠ a1) (h1 : a2 = a3) (h2 : a0 = 6) (h3 : a0 < a2) : a0 ≠ a1 ∧ 0 ≤ a0 ∧ a0 < a3 := oc95 h0 h1 h2 h3
theorem ow155 {a0 : Int} (h0 : a0 = 6) : (0 : Int) ≤ a0 := oz1130 h0
theorem ow156 {a0 : Int} (h0 : a0 = 6) : a0 ≠ ((0 : Nat) : Int) := oc97 h0
theorem ow157 {a0 : Int} (h0 : a0 = 6) : a0 ≠ ((1 : Nat) : Int) := oc98 h0
theorem ow158 {a0 : Int} (h0 : a0 = 6) : a0 ≠ ((2 : Nat) : Int) := oc99 h0
theorem ow159 {a0 : Int} (h0 : a0 = 6) : a0 ≠ ((3 : Nat) : Int) := oc100 h0
theorem ow160 {a0 : Int} (h0 : a0 = 6) : a0 ≠ ((4 : Nat) : Int) := oc101 h0
theorem ow161 {a0 : Int} (h0 : a0 = 6) : a0 ≠ ((5 : Nat) : Int) := oc102 h0
theorem ow162 {a0 : Int} (h0 : a0 = 6) : a0 = ((6 : Nat) : Int) := oc103 h0
theorem ow163 {a0 : Int} (h0 : a0 = 6) : a0 ≠ ((7 : Nat) : Int) := oc104 h0
theorem ow164 {a0 : Int} (h0 : a0 = 6) : a0 < 8 := oz1485 h0
theorem ow165 {a0 a1 a2 a3 : Int} (h0 : a0 ≠ a1) (h1 : a2 = a3) (h2 : a1 ≤ 7) (h3 : a0 = 7) (h4 : a0 < a2) : a0 ≠ a1 ∧ 0 ≤ a0 ∧ a0 < a3 := oc106 h0 h1 h2 h3 h4
theorem ow166 {a0 : Int} (h0 : a0 = 7) : (0 : Int) ≤ a0 := oz1133 h0
theorem ow167 {a0 : Int} (h0 : a0 = 7) : a0 ≠ ((0 : Nat) : Int) := oc108 h0
theorem ow168 {a0 : Int} (h0 : a0 = 7) : a0 ≠ ((1 : Nat) : Int) := oc109 h0
theorem ow169 {a0 : Int} (h0 : a0 = 7) : a0 ≠ ((2 : Nat) : Int) := oc110 h0
theorem ow170 {a0 : Int} (h0 : a0 = 7) : a0 ≠ ((3 : Nat) : Int) := oc111 h0
theorem ow171 {a0 : Int} (h0 : a0 = 7) : a0 ≠ ((4 : Nat) : Int) := oc112 h0
theorem ow172 {a0 : Int} (h0 : a0 = 7) : a0 ≠ ((5 : Nat) : Int) := oc113 h0
theorem ow173 {a0 : Int} (h0 : a0 = 7) : a0 ≠ ((6 : Nat) : Int) := oc114 h0
theorem ow174 {a0 : Int} (h0 : a0 = 7) : a0 = ((7 : Nat) : Int) := oc115 h0
theorem ow175 {a0 : Int} (h0 : a0 = 7) : a0 < 8 := oz1494 h0
theorem ow176 {a0 a1 : Int} (h0 : a0 ≤ 8) (h1 : ¬ (a1 = 0)) (h2 : ¬ (a1 = 1)) (h3 : ¬ (a1 = 2)) (h4 : ¬ (a1 = 3)) (h5 : ¬ (a1 = 4)) (h6 : ¬ (a1 = 5)) (h7 : ¬ (a1 = 6)) (h8 : ¬ (a1 = 7)) (h9 : (0 : Int) ≤ a1) (h10 : a1 < a0) : False := oz1051 h0 h1 h2 h3 h4 h5 h6 h7 h8 h9 h10
theorem ow177 {a0 a1 a2 a3 : Int} (h0 : a0 = a1) (h1 : ¬ (((0 : Int) ≤ a2) ∧ (a2 < a0))) : ¬ (a2 ≠ a3 ∧ 0 ≤ a2 ∧ a2 < a1) := oc118 h0 h1
theorem ow178 {a0 a1 a2 : Int} (h0 : a0 = a1) (h1 : a0 = a2) (h2 : a1 = 8) : a2 = 8 := oc119 h0 h1 h2
theorem ow179 {a0 a1 a2 : Int} (h0 : a0 ≤ a1) (h1 : a0 = a2) (h2 : (1 : Int) ≤ a2) : (1 : Int) ≤ a1 := oi179 h0 h1 h2
theorem ow180 {a0 a1 a2 : Int} (h0 : a0 < a1) (h1 : a1 = 5) (h2 : a2 = 1) : a0 + a2 ≤ 2147483647 := oz561 h0 h1 h2
theorem ow181 {a0 a1 a2 a3 a4 : Int} (h0 : a0 ≤ (5 - a1)) (h1 : a2 = a1 + a3) (h2 : a4 = (a0 - 1)) (h3 : a3 = 1) : a4 ≤ (5 - a2) := oi181 h0 h1 h2 h3
theorem ow182 {a0 a1 : Int} (h0 : a0 < a1) (h1 : a1 = 5) : a0 < 5 := oz560 h0 h1
theorem ow183 {a0 a1 a2 : Int} (h0 : a0 ≤ a1) (h1 : a0 = a2) : a2 ≤ a1 := oz1318 h0 h1
theorem ow184 {a0 a1 a2 : Int} (h0 : a0 = a1 + a2) (h1 : a2 = 1) : (5 - a0) < (5 - a1) := oz372 h0 h1
theorem ow185 {a0 a1 : Int} (h0 : a0 < a1) (h1 : a1 = 5) : (1 : Int) ≤ (5 - a0) := oz562 h0 h1
theorem ow186 {a0 a1 : Int} (h0 : a0 ≤ 5) (h1 : a1 = 0) : a0 ≤ (5 - a1) := oi186 h0 h1
theorem ow187 {a0 a1 a2 a3 a4 : Int} (h0 : a0 ≠ a1) (h1 : (0 : Int) ≤ a2) (h2 : a2 < a3) (h3 : a1 = 1) : ((0 : Int) ≤ a2) ∧ (a2 < a3) ∧ (¬ ((a4 = 0) ∧ (a0 = 1))) := by omega
theorem ow188 {a0 a1 a2 a3 a4 a5 : Int} (h0 : a0 = a1) (h1 : a2 = a3) (h2 : a1 = 1) (h3 : a3 = 0) : ¬ (((0 : Int) ≤ a4) ∧ (a4 < a5) ∧ (¬ ((a2 = 0) ∧ (a0 = 1)))) := oi188 h0 h1 h2 h3
theorem ow189 {a0 a1 a2 a3 : Int} (h0 : ¬ (((0 : Int) ≤ a0) ∧ (a0 < a1))) : ¬ (((0 : Int) ≤ a0) ∧ (a0 < a1) ∧ (¬ ((a2 = 0) ∧ (a3 = 1)))) := oi189 h0
theorem ow190 {a0 a1 a2 a3 : Int} (h0 : a0 ≤ a1) (h1 : a2 = a3 ∨ a2 = a0) (h2 : a1 = 8) (h3 : a3 = 0) : a3 + a2 ≤ 8 := oz1017 h0 h1 h2 h3
theorem ow191 {a0 a1 : Int} (h0 : a0 = 0) (h1 : a1 = 5) : a0 + a1 ≤ 5 := oz1018 h0 h1
theorem ow192 {a0 : Int} (h0 : a0 ≤ 5) : a0 ≤ 5 := oz527 h0
theorem ow193 {a0 : Int} (h0 : a0 ≤ 8) : a0 ≤ 8 := oz559 h0
theorem ow194 {a0 : Int} (h0 : a0 = 8) : (0 : Int) ≤ a0 := oz85 h0
theorem ow195 {a0 a1 : Int} (h0 : a0 = 0) (h1 : a1 = 8) : a0 + a1 ≤ 8 := oz1019 h0 h1
theorem ow196 {a0 a1 : Int} (h0 : a0 < a1) (h1 : a0 = 4) : ((5 : Nat) : Int) ≤ a1 := by omega
theorem ow197 {a0 a1 : Int} (h0 : a0 ≤ a1) (h1 : a0 = 8) : 64 ≤ 8 * a1 := by omega
theorem ow198 {a0 a1 a2 : Int} (h0 : a0 < a1) (h1 : a1 = 8) (h2 : a2 = 1) : a0 + a2 ≤ 2147483647 := oz474 h0 h1 h2
theorem ow199 {a0 a1 a2 a3 a4 : Int} (h0 : a0 ≤ a1) (h1 : a2 = a3 + a4) (h2 : a0 = 8) (h3 : a4 = 1) : 8 * a2 ≤ 8 * a3 + a1 := by omega
theorem ow200 {a0 a1 a2 : Int} (h0 : a0 = a1 + a2) (h1 : a2 = 1) : (8 - a0) < (8 - a1) := oz475 h0 h1
theorem ow201 {a0 a1 : Int} (h0 : a0 < a1) (h1 : a1 = 8) : (1 : Int) ≤ (8 - a0) := oz476 h0 h1
theorem ow203 {a0 a1 : Int} (h0 : a0 < a1) (h1 : a1 = 8) : a0 < 8 := oz936 h0 h1
theorem ow204 {a0 a1 : Int} (h0 : a0 < a1) (h1 : (0 : Int) ≤ a0) (h2 : a1 = 8) : ((0 : Int) ≤ a0) ∧ (a0 ≤ 7) := oz488 h0 h1 h2
theorem ow205 {a0 : Int} (h0 : (0 : Int) ≤ a0) (h1 : a0 = 0) : a0 = ((0 : Nat) : Int) := by omega
theorem ow206 {a0 a1 : Int} (h0 : a0 < a1) (h1 : a0 = 1) (h2 : a1 = 8) : ((0 : Int) ≤ a0) ∧ (a0 ≤ 7) := oz1021 h0 h1 h2
theorem ow207 {a0 a1 : Int} (h0 : a0 < a1) (h1 : a0 = 2) (h2 : a1 = 8) : ((0 : Int) ≤ a0) ∧ (a0 ≤ 7) := oz1022 h0 h1 h2
theorem ow208 {a0 a1 : Int} (h0 : a0 < a1) (h1 : a0 = 3) (h2 : a1 = 8) : ((0 : Int) ≤ a0) ∧ (a0 ≤ 7) := oz1023 h0 h1 h2
theorem ow209 {a0 a1 : Int} (h0 : a0 < a1) (h1 : a0 = 4) (h2 : a1 = 8) : ((0 : Int) ≤ a0) ∧ (a0 ≤ 7) := oz1024 h0 h1 h2
theorem ow210 {a0 a1 : Int} (h0 : a0 < a1) (h1 : a0 = 5) (h2 : a1 = 8) : ((0 : Int) ≤ a0) ∧ (a0 ≤ 7) := oz1025 h0 h1 h2
theorem ow211 {a0 a1 : Int} (h0 : a0 < a1) (h1 : a0 = 6) (h2 : a1 = 8) : ((0 : Int) ≤ a0) ∧ (a0 ≤ 7) := oz1026 h0 h1 h2
theorem ow212 {a0 a1 : Int} (h0 : a0 < a1) (h1 : a0 = 7) (h2 : a1 = 8) : ((0 : Int) ≤ a0) ∧ (a0 ≤ 7) := oz1027 h0 h1 h2
theorem ow213 {a0 a1 : Int} (h0 : a0 < a1) (h1 : a0 = 7) (h2 : a1 = 8) : a0 = ((7 : Nat) : Int) := by omega
theorem ow214 {a0 a1 : Int} (h0 : a0 < a1) (h1 : (0 : Int) ≤ a0) (h2 : ¬ (a0 = 0)) (h3 : ¬ (a0 = 1)) (h4 : ¬ (a0 = 2)) (h5 : ¬ (a0 = 3)) (h6 : ¬ (a0 = 4)) (h7 : ¬ (a0 = 5)) (h8 : ¬ (a0 = 6)) (h9 : ¬ (a0 = 7)) (h10 : a1 = 8) : False := oz1028 h0 h1 h2 h3 h4 h5 h6 h7 h8 h9 h10
theorem ow215 {a0 a1 : Int} (h0 : a0 ≤ a1) (h1 : a1 = 4) : a0 < 5 := oz557 h0 h1
theorem ow216 {a0 a1 a2 : Int} (h0 : a0 ≤ a1) (h1 : a1 = 4) (h2 : a2 = 1) : a0 + a2 ≤ 2147483647 := oz1029 h0 h1 h2
theorem ow217 {a0 a1 : Int} (h0 : a0 ≤ a1) (h1 : a1 = 4) : a0 < ((5 : Nat) : Int) := by omega
theorem ow218 {a0 a1 : Int} (h0 : a0 ≤ a1) (h1 : a1 = 4) : (1 : Int) ≤ (5 - a0) := oz1030 h0 h1
theorem ow397 {a0 : Int} (h0 : a0 = 4) : a0 = 4 := oz1446 h0
theorem ow398 {a0 : Int} (h0 : a0 = 5) : ¬ (a0 = 4) := ou1 h0
theorem ow399 {a0 : Int} (h0 : a0 = 5) : a0 = 5 := oz1470 h0
theorem ow400 {a0 : Int} (h0 : a0 = 6) : ¬ (a0 = 4) := ou3 h0
theorem ow401 {a0 : Int} (h0 : a0 = 6) : ¬ (a0 = 5) := ou4 h0
theorem ow402 {a0 : Int} (h0 : a0 = 6) : a0 = 6 := oz1484 h0
theorem ow403 {a0 : Int} (h0 : ¬ (a0 = 4)) (h1 : ¬ (a0 = 5)) (h2 : ¬ (a0 = 6)) : a0 < 4 ∨ 6 < a0 := oz972 h0 h1 h2
theorem ow404 {a0 : Int} (h0 : ¬ (a0 = 0)) (h1 : ¬ (a0 = 1)) (h2 : ¬ (a0 = 2)) : a0 < 0 ∨ 2 < a0 := oz973 h0 h1 h2
theorem ow405 {a0 : Int} (h0 : ¬ (a0 = 0)) (h1 : ¬ (a0 = 1)) (h2 : ¬ (a0 = 2)) : (a0 ≠ 0) ∧ (a0 ≠ 1) ∧ (a0 ≠ 2) := ou15 h0 h1 h2
theorem ow406 {a0 : Int} (h0 : a0 = 0) : ¬ (a0 = 4) := ou18 h0
theorem ow407 {a0 : Int} (h0 : a0 = 0) : ¬ (a0 = 5) := ou19 h0
theorem ow408 {a0 : Int} (h0 : a0 = 0) : ¬ (a0 = 6) := ou20 h0
theorem ow409 {a0 a1 : Int} (h0 : (0 : Int) ≤ a0) (h1 : a0 < a1) : ((0 : Int) ≤ a0) ∧ (a0 < a1) := oz967 h0 h1
theorem ow410 {a0 : Int} (h0 : a0 = 1) : ¬ (a0 = 4) := ou22 h0
theorem ow411 {a0 : Int} (h0 : a0 = 1) : ¬ (a0 = 5) := ou23 h0
theorem ow412 {a0 : Int} (h0 : a0 = 1) : ¬ (a0 = 6) := ou24 h0
theorem ow413 {a0 : Int} (h0 : a0 = 1) : ¬ (a0 = 0) := ou25 h0
theorem ow414 {a0 : Int} (h0 : a0 = 2) : ¬ (a0 = 4) := ou26 h0
theorem ow415 {a0 : Int} (h0 : a0 = 2) : ¬ (a0 = 5) := ou27 h0
theorem ow416 {a0 : Int} (h0 : a0 = 2) : ¬ (a0 = 6) := ou28 h0
theorem ow417 {a0 : Int} (h0 : a0 = 2) : ¬ (a0 = 0) := ou29 h0
theorem ow418 {a0 : Int} (h0 : a0 = 2) : ¬ (a0 = 1) := ou30 h0
theorem ow419 {a0 : Int} (h0 : ¬ (a0 = 4)) : ¬ (a0 = 4) := ou31 h0
theorem ow420 {a0 : Int} (h0 : ¬ (a0 = 4)) (h1 : ¬ (a0 = 5)) : ¬ (a0 = 5) := ou32 h0 h1
theorem ow421 {a0 : Int} (h0 : ¬ (a0 = 4)) (h1 : ¬ (a0 = 5)) (h2 : ¬ (a0 = 6)) : ¬ (a0 = 6) := ou33 h0 h1 h2
theorem ow422 {a0 : Int} (h0 : a0 ≠ 0) : ¬ (a0 = 0) := ou34 h0
theorem ow423 {a0 : Int} (h0 : a0 ≠ 0) (h1 : a0 ≠ 1) : ¬ (a0 = 1) := ou35 h0 h1
theorem ow424 {a0 : Int} (h0 : a0 ≠ 0) (h1 : a0 ≠ 1) (h2 : a0 ≠ 2) : ¬ (a0 = 2) := ou36 h0 h1 h2
theorem ow425 {a0 a1 : Int} (h0 : ¬ (((0 : Int) ≤ a0) ∧ (a0 < a1))) : ¬ (((0 : Int) ≤ a0) ∧ (a0 < a1)) := oz968 h0
noncomputable def yw19_59 : kW := ([3781], [62], [], [])
set_option maxRecDepth 100000 in
theorem ke19_59 {i : Nat → Int32} {a : Nat → List Int32} {q : Nat → List Int64} {r : Nat → Nat} (hI : kI i a q) (hr : kr r) (x1 : Int32) : km 1 19 [.ref 59, .int x1] (ks i a q r) (kVN yw19_59 i a q r (fun i1 a1 q1 r1 => ((((i 3781).toInt ≤ 120) ∧ ((i1 3781).toInt = ((i 3781).toInt + 1))) ∨ (((121 : Int) ≤ (i 3781).toInt) ∧ ((i1 3781).toInt = (i 3781).toInt))) ∧ (a1 62, i1 3781) = lPush (a 62, i 3781) x1)) := by
  have hG := kG_self yw19_59 hI hr
  refine km_ofN (q := (mi_h19, mi_c19)) rfl (by decide) (Nat.le_of_ble_eq_true rfl) ?_
  intro P hP
  have fi_3781 : ((0 : Int) ≤ (i 3781).toInt) ∧ ((i 3781).toInt ≤ 121) := hG.I.1 3781
  refine fo_goL mi_k19 fz19_0_3_6 [(0, .ref 59), (1, .int x1)] [.int 121, .int (i 3781)] rfl ?_
  refine ft_ifS mi_k19 (decide (121 ≤ (i 3781))) 29 9 [] (by rfl) (fun c => ?_) (fun c => ?_)
  ·
    have c1 : (121 : Int32).toInt ≤ (i 3781).toInt := kd_le c; clear c
    exact ft_ret mi_k19 (by rfl) (hP  _ _ _ _ hG ⟨(ow29 c1 kow121), ((show (a 62, i 3781) = (a 62, i 3781) from rfl).trans (if_neg (ow30 c1 kow121)).symm)⟩)
  ·
    have c2 : (i 3781).toInt < (121 : Int32).toInt := kd_leF c; clear c
    refine fo_goS mi_k19 fz19_9_5_18 [.int x1, .int (i 3781), .ref 62] rfl ?_
    refine ko_iast3 mi_k19.1 (n := 121) (c := 121) (ax := (0, 0, 0, 0, 0)) (mi_k19.2 _ _ (by rfl)) (by rfl) (ksG62 _ _ _ _) (ksA62 _ _ _ _) (hG.I.2.1 62) rfl (ow4 fi_3781.1) (ow31 c2 kow121) ?_
    intro a3 ea3 fa3
    have hJ3 := kG_a3 hG 62 rfl ea3 fa3 (kd_bd _)
    have s4 : ((i 3781) + 1).toInt = (i 3781).toInt + (1 : Int32).toInt := kd_add (ow32 fi_3781.1 kow1) (ow33 fi_3781.2 kow1)
    have hJ5 := kG_i hJ3 3781 rfl (v := ((i 3781) + 1)) ⟨(ow34 fi_3781.1 s4 kow1), (ow35 c2 s4 kow121 kow1)⟩
    first | refine fo_goI mi_k19 fz19_19_6_29 [] (ku i 3781 ((i 3781) + 1)) (by rfl) ?_ | refine ft_go mi_k19 6 29 [(0, .ref 59), (1, .int x1)] [] (ku i 3781 ((i 3781) + 1)) a3 q r (by rfl) ?_
    exact ft_ret mi_k19 (by rfl) (hP  _ _ _ _ hJ5 ⟨(ow36 c2 s4 kow121 kow1), ((show (a3 62, ((i 3781) + 1)) = ((a 62).set (i 3781).toNatClampNeg x1, i 3781 + 1) from by rw [ea3]).trans (if_pos (ow37 c2 kow121)).symm)⟩)
noncomputable def yw20_59 : kW := ([3781], [], [], [])
set_option maxRecDepth 100000 in
theorem ke20_59 {i : Nat → Int32} {a : Nat → List Int32} {q : Nat → List Int64} {r : Nat → Nat} (hI : kI i a q) (hr : kr r)  : km 1 20 [.ref 59] (ks i a q r) (kVI yw20_59 i a q r (fun v i1 a1 q1 r1 => ((((1 : Int) ≤ (i 3781).toInt) ∧ ((i1 3781).toInt = ((i 3781).toInt - 1))) ∨ (((i 3781).toInt ≤ 0) ∧ ((i1 3781).toInt = (i 3781).toInt))) ∧ (v, (a1 62, i1 3781)) = lPop (a 62, i 3781))) := by
  have hG := kG_self yw20_59 hI hr
  refine km_ofI (q := (mi_h20, mi_c20)) rfl (by decide) (Nat.le_of_ble_eq_true rfl) ?_
  intro P hP
  have fi_3781 : ((0 : Int) ≤ (i 3781).toInt) ∧ ((i 3781).toInt ≤ 121) := hG.I.1 3781
  refine fo_goL mi_k20 fz20_0_2_4 [(0, .ref 59)] [.int (i 3781)] rfl ?_
  refine ft_ifS mi_k20 (decide (0 < (i 3781))) 9 7 [] (by rfl) (fun c => ?_) (fun c => ?_)
  ·
    have c1 : (0 : Int32).toInt < (i 3781).toInt := kd_lt c; clear c
    have s2 : ((i 3781) - 1).toInt = (i 3781).toInt - (1 : Int32).toInt := kd_sub (ow46 c1 kow0 kow1) (ow47 fi_3781.2 kow1)
    have hJ3 := kG_i hG 3781 rfl (v := ((i 3781) - 1)) ⟨(ow48 c1 s2 kow0 kow1), (ow49 fi_3781.2 s2 kow1)⟩
    first | refine fo_goI mi_k20 fz20_9_10_27 [.int ((i 3781) - 1), .ref 62] (ku i 3781 ((i 3781) - 1)) (by rfl) ?_ | refine ft_go mi_k20 10 27 [(0, .ref 59)] [.int ((i 3781) - 1), .ref 62] (ku i 3781 ((i 3781) - 1)) a q r (by rfl) ?_
    refine ko_iald3 mi_k20.1 (n := 121) (c := 121) (ax := (0, 0, 0, 0, 0)) (mi_k20.2 _ _ (by rfl)) (by rfl) (ksG62 _ _ _ _) (hJ3.I.2.1 62) rfl (ow48 c1 s2 kow0 kow1) (ow50 fi_3781.2 s2 kow1) ?_
    exact ft_ret mi_k20 (by rfl) (hP ((a 62).getD ((i 3781) - 1).toNatClampNeg 0) _ _ _ _ hJ3 ⟨(ow51 c1 s2 kow0 kow1), ((show (((a 62).getD ((i 3781) - 1).toNatClampNeg 0), (a 62, ((i 3781) - 1))) = ((a 62).getD (i 3781 - 1).toNatClampNeg 0, (a 62, i 3781 - 1)) from rfl).trans (if_pos (ow52 c1 kow0)).symm)⟩)
  ·
    have c4 : (i 3781).toInt ≤ (0 : Int32).toInt := kd_ltF c; clear c
    refine fo_goS mi_k20 fz20_7_1_8 [.int 0] rfl ?_
    exact ft_ret mi_k20 (by rfl) (hP 0 _ _ _ _ hG ⟨(ow53 c4 kow0), ((show ((0 : Int32), (a 62, i 3781)) = (0, (a 62, i 3781)) from rfl).trans (if_neg (ow54 c4 kow0)).symm)⟩)
noncomputable def yw21_59_73 : kW := ([3781], [62], [], [])
noncomputable def yw21_59_73_L9 : kW := ([3781], [62], [], [])
set_option maxRecDepth 100000 in
theorem ke21_59_73 {i : Nat → Int32} {a : Nat → List Int32} {q : Nat → List Int64} {r : Nat → Nat} (hI : kI i a q) (hr : kr r)  : km 3 21 [.ref 59, .ref 73] (ks i a q r) (kVI yw21_59_73 i a q r (fun v i1 a1 q1 r1 => (True) ∧ v = lRun (a 60) (a 61) (a 73) (i 3779) 121 0 (a 62, 0))) := by
  have hG := kG_self yw21_59_73 hI hr
  refine km_ofI (q := (mi_h21, mi_c21)) rfl (by decide) (Nat.le_of_ble_eq_true rfl) ?_
  intro P hP
  have hJ1 := kG_i hG 3781 rfl (v := 0) ⟨(ow9 kow0), (ow21 kow0)⟩
  first | refine fo_go mi_k21 fz21_0_7_9 [(3, .int 0), (2, .int 0), (0, .ref 59), (1, .ref 73)] [] (ku i 3781 0) a q r (by rfl) ?_ | refine ft_goL mi_k21 7 9 [(3, .int 0), (2, .int 0), (0, .ref 59), (1, .ref 73)] [] (by rfl) ?_ | refine ft_go mi_k21 7 9 [(3, .int 0), (2, .int 0), (0, .ref 59), (1, .ref 73)] [] (ku i 3781 0) a q r (by rfl) ?_ | refine ko_steps mi_in21 7 _ (9, [(3, .int 0), (2, .int 0), (0, .ref 59), (1, .ref 73)], [], (0, 0), ks (ku i 3781 0) a q r) (by rfl) ?_
  have lp2 : ∀ (nz : Nat) (i2 : Nat → Int32) (a2 : Nat → List Int32) (q2 : Nat → List Int64) (r2 : Nat → Nat) (l3_2 : Int32) (l2_2 : Int32), kG yw21_59_73_L9 (ku i 3781 0) a q r i2 a2 q2 r2 → (0 : Int) ≤ l3_2.toInt → lRun (a 60) (a 61) (a 73) (i 3779) (121 - l3_2.toInt).toNat l2_2 (a2 62, i2 3781) = lRun (a 60) (a 61) (a 73) (i 3779) 121 0 (a 62, 0) → ((121 - l3_2.toInt)).toNat < nz → ko 3 (mi_h21, mi_c21) P (9, [(3, .int l3_2), (2, .int l2_2), (0, .ref 59), (1, .ref 73)], [], (0, 0), ks i2 a2 q2 r2) := by
    intro nz
    induction nz with
    | zero =>
      intro _ _ _ _ _ _ _ _ _ hm
      exact absurd hm (Nat.not_lt_zero _)
    | succ nz ih2 =>
      intro i2 a2 q2 r2 l3_2 l2_2 hL2 p2_0 O2_0 hm2
      refine fo_goL mi_k21 fz21_9_2_12 [(3, .int l3_2), (2, .int l2_2), (0, .ref 59), (1, .ref 73)] [.int 121, .int l3_2] rfl ?_
      refine ft_ifS mi_k21 (decide (121 ≤ l3_2)) 220 15 [] (by rfl) (fun c => ?_) (fun c => ?_)
      ·
        have c3 : (121 : Int32).toInt ≤ l3_2.toInt := kd_le c; clear c
        have hG4 := kG_call hJ1 hL2 (by decide +kernel)
        refine fo_goS mi_k21 fz21_220_1_221 [.int 0] rfl ?_
        exact ft_ret mi_k21 (by rfl) (hP 0 _ _ _ _ hG4 ⟨trivial, (show (0 : Int32) = lRun (a 60) (a 61) (a 73) (i 3779) 121 0 (a 62, 0) from (lRun_end O2_0 (kj_none (ow22 c3 kow121))).symm)⟩)
      ·
        have c5 : l3_2.toInt < (121 : Int32).toInt := kd_leF c; clear c
        refine fo_goS mi_k21 fz21_15_1_16 [.int l2_2] rfl ?_
        refine ft_ifS mi_k21 (decide (l2_2 < 0)) 220 19 [] (by rfl) (fun c => ?_) (fun c => ?_)
        ·
          have c6 : l2_2.toInt < (0 : Int32).toInt := kd_lt c; clear c
          have hG7 := kG_call hJ1 hL2 (by decide +kernel)
          refine fo_goS mi_k21 fz21_220_1_221 [.int 0] rfl ?_
          exact ft_ret mi_k21 (by rfl) (hP 0 _ _ _ _ hG7 ⟨trivial, (show (0 : Int32) = lRun (a 60) (a 61) (a 73) (i 3779) 121 0 (a 62, 0) from (lRun_out O2_0 (ow23 c6 kow0)).symm)⟩)
        ·
          have c8 : (0 : Int32).toInt ≤ l2_2.toInt := kd_ltF c; clear c
          have fi2_3779 : ((0 : Int) ≤ (i2 3779).toInt) ∧ ((i2 3779).toInt ≤ 121) := hL2.I.1 3779
          have fi_3779 : ((0 : Int) ≤ (i 3779).toInt) ∧ ((i 3779).toInt ≤ 121) := hJ1.I.1 3779
          have efi2_3779 : (i2 3779).toInt = (i 3779).toInt := hL2.ti 3779 rfl
          refine fo_goS mi_k21 fz21_19_3_24 [.int (i2 3779), .int l2_2] rfl ?_
          refine ft_ifS mi_k21 (decide ((i2 3779) ≤ l2_2)) 220 27 [] (by rfl) (fun c => ?_) (fun c => ?_)
          ·
            have c9 : (i2 3779).toInt ≤ l2_2.toInt := kd_le c; clear c
            have hG10 := kG_call hJ1 hL2 (by decide +kernel)
            refine fo_goS mi_k21 fz21_220_1_221 [.int 0] rfl ?_
            exact ft_ret mi_k21 (by rfl) (hP 0 _ _ _ _ hG10 ⟨trivial, (show (0 : Int32) = lRun (a 60) (a 61) (a 73) (i 3779) 121 0 (a 62, 0) from (lRun_out O2_0 (ow24 c9 efi2_3779)).symm)⟩)
          ·
            have c11 : l2_2.toInt < (i2 3779).toInt := kd_leF c; clear c
            refine fo_goS mi_k21 fz21_27_3_32 [.int l2_2, .ref 60] rfl ?_
            refine ko_iald3 mi_k21.1 (n := 121) (c := 121) (ax := (0, 0, 0, 0, 0)) (mi_k21.2 _ _ (by rfl)) (by rfl) (ksG60 _ _ _ _) (hL2.I.2.1 60) rfl (ow25 c8 kow0) (ow26 c11 fi2_3779.2) ?_
            refine fo_goL mi_k21 fz21_33_4_40 [(4, .int ((a2 60).getD l2_2.toNatClampNeg 0)), (3, .int l3_2), (2, .int l2_2), (0, .ref 59), (1, .ref 73)] [.int l2_2, .ref 61] rfl ?_
            refine ko_iald3 mi_k21.1 (n := 121) (c := 121) (ax := (0, 0, 0, 0, 0)) (mi_k21.2 _ _ (by rfl)) (by rfl) (ksG61 _ _ _ _) (hL2.I.2.1 61) rfl (ow25 c8 kow0) (ow26 c11 fi2_3779.2) ?_
            have s12 : (l2_2 + 1).toInt = l2_2.toInt + (1 : Int32).toInt := kd_add (ow27 c8 kow0 kow1) (ow28 c11 fi2_3779.2 kow1)
            refine fo_goL mi_k21 fz21_41_3_48 [(2, .int (l2_2 + 1)), (5, .int ((a2 61).getD l2_2.toNatClampNeg 0)), (4, .int ((a2 60).getD l2_2.toNatClampNeg 0)), (3, .int l3_2), (0, .ref 59), (1, .ref 73)] [.int ((a2 60).getD l2_2.toNatClampNeg 0)] rfl ?_
            by_cases w13 : ((a2 60).getD l2_2.toNatClampNeg 0).toInt = 0
            ·
              refine ft_swx mi_k21 (pc := 48) (v := 0) (t := 108) (kj_eq w13 (by decide) : ((a2 60).getD l2_2.toNatClampNeg 0) = 0) (by decide +kernel) ?_
              refine fo_goS mi_k21 fz21_108_2_111 [.int ((a2 61).getD l2_2.toNatClampNeg 0), .ref 59] rfl ?_
              refine ko_callN mi_k21.1 (pc := 111) (ls := [(2, .int (l2_2 + 1)), (5, .int ((a2 61).getD l2_2.toNatClampNeg 0)), (4, .int ((a2 60).getD l2_2.toNatClampNeg 0)), (3, .int l3_2), (0, .ref 59), (1, .ref 73)]) (st := [.int ((a2 61).getD l2_2.toNatClampNeg 0), .ref 59]) (h := ks i2 a2 q2 r2) (i := (.invokevirtual 32, 3, 19, 0, 9, 0, 225)) (mi_k21.2 _ _ (by rfl)) (ft_invS mi_pq19 (by rfl)) (cy := mi_c19) mi_pq19 rfl (ke19_59 hL2.I hL2.R ((a2 61).getD l2_2.toNatClampNeg 0)) (by decide) ?_
              intro ig14 ag14 qg14 rg14 kg14 hg14
              have hGg14 := kG_call hL2 kg14 (by decide +kernel)
              obtain ⟨hg14, og14⟩ := hg14
              have s16 : (l3_2 + 1).toInt = l3_2.toInt + (1 : Int32).toInt := kd_add (ow32 p2_0 kow1) (ow38 c5 kow121 kow1)
              first | refine fo_goL mi_k21 fz21_6_3_9 [(3, .int (l3_2 + 1)), (2, .int (l2_2 + 1)), (5, .int ((a2 61).getD l2_2.toNatClampNeg 0)), (4, .int ((a2 60).getD l2_2.toNatClampNeg 0)), (0, .ref 59), (1, .ref 73)] [] (by rfl) ?_ | refine fo_goL mi_k21 fz21_114_3_9 [(3, .int (l3_2 + 1)), (2, .int (l2_2 + 1)), (5, .int ((a2 61).getD l2_2.toNatClampNeg 0)), (4, .int ((a2 60).getD l2_2.toNatClampNeg 0)), (0, .ref 59), (1, .ref 73)] [] (by rfl) ?_ | refine fo_goL mi_k21 fz21_141_3_9 [(3, .int (l3_2 + 1)), (2, .int (l2_2 + 1)), (5, .int ((a2 61).getD l2_2.toNatClampNeg 0)), (4, .int ((a2 60).getD l2_2.toNatClampNeg 0)), (0, .ref 59), (1, .ref 73)] [] (by rfl) ?_ | refine fo_goL mi_k21 fz21_153_3_9 [(3, .int (l3_2 + 1)), (2, .int (l2_2 + 1)), (5, .int ((a2 61).getD l2_2.toNatClampNeg 0)), (4, .int ((a2 60).getD l2_2.toNatClampNeg 0)), (0, .ref 59), (1, .ref 73)] [] (by rfl) ?_ | refine fo_goL mi_k21 fz21_159_3_9 [(3, .int (l3_2 + 1)), (2, .int (l2_2 + 1)), (5, .int ((a2 61).getD l2_2.toNatClampNeg 0)), (4, .int ((a2 60).getD l2_2.toNatClampNeg 0)), (0, .ref 59), (1, .ref 73)] [] (by rfl) ?_ | refine fo_goL mi_k21 fz21_178_3_9 [(3, .int (l3_2 + 1)), (2, .int (l2_2 + 1)), (5, .int ((a2 61).getD l2_2.toNatClampNeg 0)), (4, .int ((a2 60).getD l2_2.toNatClampNeg 0)), (0, .ref 59), (1, .ref 73)] [] (by rfl) ?_ | refine fo_goL mi_k21 fz21_190_3_9 [(3, .int (l3_2 + 1)), (2, .int (l2_2 + 1)), (5, .int ((a2 61).getD l2_2.toNatClampNeg 0)), (4, .int ((a2 60).getD l2_2.toNatClampNeg 0)), (0, .ref 59), (1, .ref 73)] [] (by rfl) ?_ | refine ft_goL mi_k21 3 9 [(3, .int (l3_2 + 1)), (2, .int (l2_2 + 1)), (5, .int ((a2 61).getD l2_2.toNatClampNeg 0)), (4, .int ((a2 60).getD l2_2.toNatClampNeg 0)), (0, .ref 59), (1, .ref 73)] [] (by rfl) ?_ | refine ko_steps mi_in21 3 _ (9, [(3, .int (l3_2 + 1)), (2, .int (l2_2 + 1)), (5, .int ((a2 61).getD l2_2.toNatClampNeg 0)), (4, .int ((a2 60).getD l2_2.toNatClampNeg 0)), (0, .ref 59), (1, .ref 73)], [], (0, 0), ks ig14 ag14 qg14 rg14) (by rfl) ?_
              refine ko_perm [(3, .int (l3_2 + 1)), (2, .int (l2_2 + 1)), (0, .ref 59), (1, .ref 73)] (List.forall_mem_cons.mpr ⟨(List.Mem.head _), (List.forall_mem_cons.mpr ⟨(List.Mem.tail _ (List.Mem.head _)), (List.forall_mem_cons.mpr ⟨(List.Mem.tail _ (List.Mem.tail _ (List.Mem.tail _ (List.Mem.tail _ (List.Mem.head _))))), (List.forall_mem_cons.mpr ⟨(List.Mem.tail _ (List.Mem.tail _ (List.Mem.tail _ (List.Mem.tail _ (List.Mem.tail _ (List.Mem.head _)))))), (fun _ h => absurd h List.not_mem_nil)⟩)⟩)⟩)⟩) ?_
              exact ih2 _ _ _ _ _ _ hGg14 (ow34 p2_0 s16 kow1) (lRun_num O2_0 (kj_left (ow31 c5 kow121) (ow40 s16 kow1)) ⟨(ow25 c8 kow0), (ow39 c11 efi2_3779)⟩ (kL_cast (hL2.fa 60 rfl) (ow41 w13)) (congrArg (fun z : List Int32 => z.getD l2_2.toNatClampNeg 0) (hL2.fa 61 rfl)) og14) (kj_meas (ow42 s16 kow1) (ow43 c5 kow121) hm2)
            by_cases w17 : ((a2 60).getD l2_2.toNatClampNeg 0).toInt = 1
            ·
              refine ft_swx mi_k21 (pc := 48) (v := 1) (t := 117) (kj_eq w17 (by decide) : ((a2 60).getD l2_2.toNatClampNeg 0) = 1) (by decide +kernel) ?_
              refine fo_goS mi_k21 fz21_117_2_120 [.int ((a2 61).getD l2_2.toNatClampNeg 0), .ref 59] rfl ?_
              refine ft_ifS mi_k21 (decide (((a2 61).getD l2_2.toNatClampNeg 0) < 0)) 137 123 [.ref 59] (by rfl) (fun c => ?_) (fun c => ?_)
              ·
                have c18 : ((a2 61).getD l2_2.toNatClampNeg 0).toInt < (0 : Int32).toInt := kd_lt c; clear c
                first | refine fo_goS mi_k21 fz21_134_1_138 [.int 0, .ref 59] (by rfl) ?_ | refine fo_goS mi_k21 fz21_137_1_138 [.int 0, .ref 59] (by rfl) ?_
                refine ko_callN mi_k21.1 (pc := 138) (ls := [(2, .int (l2_2 + 1)), (5, .int ((a2 61).getD l2_2.toNatClampNeg 0)), (4, .int ((a2 60).getD l2_2.toNatClampNeg 0)), (3, .int l3_2), (0, .ref 59), (1, .ref 73)]) (st := [.int 0, .ref 59]) (h := ks i2 a2 q2 r2) (i := (.invokevirtual 32, 3, 19, 0, 9, 0, 225)) (mi_k21.2 _ _ (by rfl)) (ft_invS mi_pq19 (by rfl)) (cy := mi_c19) mi_pq19 rfl (ke19_59 hL2.I hL2.R 0) (by decide) ?_
                intro ig19 ag19 qg19 rg19 kg19 hg19
                have hGg19 := kG_call hL2 kg19 (by decide +kernel)
                obtain ⟨hg19, og19⟩ := hg19
                have fi2_3781 : ((0 : Int) ≤ (i2 3781).toInt) ∧ ((i2 3781).toInt ≤ 121) := hL2.I.1 3781
                have fig19_3781 : ((0 : Int) ≤ (ig19 3781).toInt) ∧ ((ig19 3781).toInt ≤ 121) := hGg19.I.1 3781
                have z20 : (((i2 3781).toInt ≤ 120) ∧ ((ig19 3781).toInt = ((i2 3781).toInt + 1))) ∨ (((121 : Int) ≤ (i2 3781).toInt) ∧ ((ig19 3781).toInt = (i2 3781).toInt)) := hg19
                have s21 : (l3_2 + 1).toInt = l3_2.toInt + (1 : Int32).toInt := kd_add (ow32 p2_0 kow1) (ow38 c5 kow121 kow1)
                first | refine fo_goL mi_k21 fz21_6_3_9 [(3, .int (l3_2 + 1)), (2, .int (l2_2 + 1)), (5, .int ((a2 61).getD l2_2.toNatClampNeg 0)), (4, .int ((a2 60).getD l2_2.toNatClampNeg 0)), (0, .ref 59), (1, .ref 73)] [] (by rfl) ?_ | refine fo_goL mi_k21 fz21_114_3_9 [(3, .int (l3_2 + 1)), (2, .int (l2_2 + 1)), (5, .int ((a2 61).getD l2_2.toNatClampNeg 0)), (4, .int ((a2 60).getD l2_2.toNatClampNeg 0)), (0, .ref 59), (1, .ref 73)] [] (by rfl) ?_ | refine fo_goL mi_k21 fz21_141_3_9 [(3, .int (l3_2 + 1)), (2, .int (l2_2 + 1)), (5, .int ((a2 61).getD l2_2.toNatClampNeg 0)), (4, .int ((a2 60).getD l2_2.toNatClampNeg 0)), (0, .ref 59), (1, .ref 73)] [] (by rfl) ?_ | refine fo_goL mi_k21 fz21_153_3_9 [(3, .int (l3_2 + 1)), (2, .int (l2_2 + 1)), (5, .int ((a2 61).getD l2_2.toNatClampNeg 0)), (4, .int ((a2 60).getD l2_2.toNatClampNeg 0)), (0, .ref 59), (1, .ref 73)] [] (by rfl) ?_ | refine fo_goL mi_k21 fz21_159_3_9 [(3, .int (l3_2 + 1)), (2, .int (l2_2 + 1)), (5, .int ((a2 61).getD l2_2.toNatClampNeg 0)), (4, .int ((a2 60).getD l2_2.toNatClampNeg 0)), (0, .ref 59), (1, .ref 73)] [] (by rfl) ?_ | refine fo_goL mi_k21 fz21_178_3_9 [(3, .int (l3_2 + 1)), (2, .int (l2_2 + 1)), (5, .int ((a2 61).getD l2_2.toNatClampNeg 0)), (4, .int ((a2 60).getD l2_2.toNatClampNeg 0)), (0, .ref 59), (1, .ref 73)] [] (by rfl) ?_ | refine fo_goL mi_k21 fz21_190_3_9 [(3, .int (l3_2 + 1)), (2, .int (l2_2 + 1)), (5, .int ((a2 61).getD l2_2.toNatClampNeg 0)), (4, .int ((a2 60).getD l2_2.toNatClampNeg 0)), (0, .ref 59), (1, .ref 73)] [] (by rfl) ?_ | refine ft_goL mi_k21 3 9 [(3, .int (l3_2 + 1)), (2, .int (l2_2 + 1)), (5, .int ((a2 61).getD l2_2.toNatClampNeg 0)), (4, .int ((a2 60).getD l2_2.toNatClampNeg 0)), (0, .ref 59), (1, .ref 73)] [] (by rfl) ?_ | refine ko_steps mi_in21 3 _ (9, [(3, .int (l3_2 + 1)), (2, .int (l2_2 + 1)), (5, .int ((a2 61).getD l2_2.toNatClampNeg 0)), (4, .int ((a2 60).getD l2_2.toNatClampNeg 0)), (0, .ref 59), (1, .ref 73)], [], (0, 0), ks ig19 ag19 qg19 rg19) (by rfl) ?_
                refine ko_perm [(3, .int (l3_2 + 1)), (2, .int (l2_2 + 1)), (0, .ref 59), (1, .ref 73)] (List.forall_mem_cons.mpr ⟨(List.Mem.head _), (List.forall_mem_cons.mpr ⟨(List.Mem.tail _ (List.Mem.head _)), (List.forall_mem_cons.mpr ⟨(List.Mem.tail _ (List.Mem.tail _ (List.Mem.tail _ (List.Mem.tail _ (List.Mem.head _))))), (List.forall_mem_cons.mpr ⟨(List.Mem.tail _ (List.Mem.tail _ (List.Mem.tail _ (List.Mem.tail _ (List.Mem.tail _ (List.Mem.head _)))))), (fun _ h => absurd h List.not_mem_nil)⟩)⟩)⟩)⟩) ?_
                exact ih2 _ _ _ _ _ _ hGg19 (ow34 p2_0 s21 kow1) (lRun_name O2_0 (kj_left (ow31 c5 kow121) (ow40 s21 kow1)) ⟨(ow25 c8 kow0), (ow39 c11 efi2_3779)⟩ (kL_cast (hL2.fa 60 rfl) (ow44 w17)) (by have k0_ : (0 : Int32).toInt = 0 := (by decide); have k6_ : (6 : Int32).toInt = 6 := (by decide); rw [← ((hL2.fa 61 rfl) : a2 61 = a 61), ← ((hL2.fa 73 rfl) : a2 73 = a 73)]; split <;> first | rfl | (exfalso; omega)) og19) (kj_meas (ow42 s21 kow1) (ow43 c5 kow121) hm2)
              ·
                have c22 : (0 : Int32).toInt ≤ ((a2 61).getD l2_2.toNatClampNeg 0).toInt := kd_ltF c; clear c
                refine fo_goS mi_k21 fz21_123_2_126 [.ref 73, .int ((a2 61).getD l2_2.toNatClampNeg 0), .ref 59] rfl ?_
                refine ko_alen mi_k21.1 (l := a2 73) (ax := (0, 0, 0, 0, 0)) (x := 6) (mi_k21.2 _ _ (by rfl)) (by rfl) (by rfl) (by rw [(hL2.I.2.1 73 : (a2 73).length = _)]; rfl) ?_
                refine ft_ifS mi_k21 (decide (6 ≤ ((a2 61).getD l2_2.toNatClampNeg 0))) 137 130 [.ref 59] (by rfl) (fun c => ?_) (fun c => ?_)
                ·
                  have c23 : (6 : Int32).toInt ≤ ((a2 61).getD l2_2.toNatClampNeg 0).toInt := kd_le c; clear c
                  first | refine fo_goS mi_k21 fz21_134_1_138 [.int 0, .ref 59] (by rfl) ?_ | refine fo_goS mi_k21 fz21_137_1_138 [.int 0, .ref 59] (by rfl) ?_
                  refine ko_callN mi_k21.1 (pc := 138) (ls := [(2, .int (l2_2 + 1)), (5, .int ((a2 61).getD l2_2.toNatClampNeg 0)), (4, .int ((a2 60).getD l2_2.toNatClampNeg 0)), (3, .int l3_2), (0, .ref 59), (1, .ref 73)]) (st := [.int 0, .ref 59]) (h := ks i2 a2 q2 r2) (i := (.invokevirtual 32, 3, 19, 0, 9, 0, 225)) (mi_k21.2 _ _ (by rfl)) (ft_invS mi_pq19 (by rfl)) (cy := mi_c19) mi_pq19 rfl (ke19_59 hL2.I hL2.R 0) (by decide) ?_
                  intro ig24 ag24 qg24 rg24 kg24 hg24
                  have hGg24 := kG_call hL2 kg24 (by decide +kernel)
                  obtain ⟨hg24, og24⟩ := hg24
                  have fi2_3781 : ((0 : Int) ≤ (i2 3781).toInt) ∧ ((i2 3781).toInt ≤ 121) := hL2.I.1 3781
                  have fig24_3781 : ((0 : Int) ≤ (ig24 3781).toInt) ∧ ((ig24 3781).toInt ≤ 121) := hGg24.I.1 3781
                  have z25 : (((i2 3781).toInt ≤ 120) ∧ ((ig24 3781).toInt = ((i2 3781).toInt + 1))) ∨ (((121 : Int) ≤ (i2 3781).toInt) ∧ ((ig24 3781).toInt = (i2 3781).toInt)) := hg24
                  have s26 : (l3_2 + 1).toInt = l3_2.toInt + (1 : Int32).toInt := kd_add (ow32 p2_0 kow1) (ow38 c5 kow121 kow1)
                  first | refine fo_goL mi_k21 fz21_6_3_9 [(3, .int (l3_2 + 1)), (2, .int (l2_2 + 1)), (5, .int ((a2 61).getD l2_2.toNatClampNeg 0)), (4, .int ((a2 60).getD l2_2.toNatClampNeg 0)), (0, .ref 59), (1, .ref 73)] [] (by rfl) ?_ | refine fo_goL mi_k21 fz21_114_3_9 [(3, .int (l3_2 + 1)), (2, .int (l2_2 + 1)), (5, .int ((a2 61).getD l2_2.toNatClampNeg 0)), (4, .int ((a2 60).getD l2_2.toNatClampNeg 0)), (0, .ref 59), (1, .ref 73)] [] (by rfl) ?_ | refine fo_goL mi_k21 fz21_141_3_9 [(3, .int (l3_2 + 1)), (2, .int (l2_2 + 1)), (5, .int ((a2 61).getD l2_2.toNatClampNeg 0)), (4, .int ((a2 60).getD l2_2.toNatClampNeg 0)), (0, .ref 59), (1, .ref 73)] [] (by rfl) ?_ | refine fo_goL mi_k21 fz21_153_3_9 [(3, .int (l3_2 + 1)), (2, .int (l2_2 + 1)), (5, .int ((a2 61).getD l2_2.toNatClampNeg 0)), (4, .int ((a2 60).getD l2_2.toNatClampNeg 0)), (0, .ref 59), (1, .ref 73)] [] (by rfl) ?_ | refine fo_goL mi_k21 fz21_159_3_9 [(3, .int (l3_2 + 1)), (2, .int (l2_2 + 1)), (5, .int ((a2 61).getD l2_2.toNatClampNeg 0)), (4, .int ((a2 60).getD l2_2.toNatClampNeg 0)), (0, .ref 59), (1, .ref 73)] [] (by rfl) ?_ | refine fo_goL mi_k21 fz21_178_3_9 [(3, .int (l3_2 + 1)), (2, .int (l2_2 + 1)), (5, .int ((a2 61).getD l2_2.toNatClampNeg 0)), (4, .int ((a2 60).getD l2_2.toNatClampNeg 0)), (0, .ref 59), (1, .ref 73)] [] (by rfl) ?_ | refine fo_goL mi_k21 fz21_190_3_9 [(3, .int (l3_2 + 1)), (2, .int (l2_2 + 1)), (5, .int ((a2 61).getD l2_2.toNatClampNeg 0)), (4, .int ((a2 60).getD l2_2.toNatClampNeg 0)), (0, .ref 59), (1, .ref 73)] [] (by rfl) ?_ | refine ft_goL mi_k21 3 9 [(3, .int (l3_2 + 1)), (2, .int (l2_2 + 1)), (5, .int ((a2 61).getD l2_2.toNatClampNeg 0)), (4, .int ((a2 60).getD l2_2.toNatClampNeg 0)), (0, .ref 59), (1, .ref 73)] [] (by rfl) ?_ | refine ko_steps mi_in21 3 _ (9, [(3, .int (l3_2 + 1)), (2, .int (l2_2 + 1)), (5, .int ((a2 61).getD l2_2.toNatClampNeg 0)), (4, .int ((a2 60).getD l2_2.toNatClampNeg 0)), (0, .ref 59), (1, .ref 73)], [], (0, 0), ks ig24 ag24 qg24 rg24) (by rfl) ?_
                  refine ko_perm [(3, .int (l3_2 + 1)), (2, .int (l2_2 + 1)), (0, .ref 59), (1, .ref 73)] (List.forall_mem_cons.mpr ⟨(List.Mem.head _), (List.forall_mem_cons.mpr ⟨(List.Mem.tail _ (List.Mem.head _)), (List.forall_mem_cons.mpr ⟨(List.Mem.tail _ (List.Mem.tail _ (List.Mem.tail _ (List.Mem.tail _ (List.Mem.head _))))), (List.forall_mem_cons.mpr ⟨(List.Mem.tail _ (List.Mem.tail _ (List.Mem.tail _ (List.Mem.tail _ (List.Mem.tail _ (List.Mem.head _)))))), (fun _ h => absurd h List.not_mem_nil)⟩)⟩)⟩)⟩) ?_
                  exact ih2 _ _ _ _ _ _ hGg24 (ow34 p2_0 s26 kow1) (lRun_name O2_0 (kj_left (ow31 c5 kow121) (ow40 s26 kow1)) ⟨(ow25 c8 kow0), (ow39 c11 efi2_3779)⟩ (kL_cast (hL2.fa 60 rfl) (ow44 w17)) (by have k0_ : (0 : Int32).toInt = 0 := (by decide); have k6_ : (6 : Int32).toInt = 6 := (by decide); rw [← ((hL2.fa 61 rfl) : a2 61 = a 61), ← ((hL2.fa 73 rfl) : a2 73 = a 73)]; split <;> first | rfl | (exfalso; omega)) og24) (kj_meas (ow42 s26 kow1) (ow43 c5 kow121) hm2)
                ·
                  have c27 : ((a2 61).getD l2_2.toNatClampNeg 0).toInt < (6 : Int32).toInt := kd_leF c; clear c
                  refine fo_goS mi_k21 fz21_130_2_133 [.int ((a2 61).getD l2_2.toNatClampNeg 0), .ref 73, .ref 59] rfl ?_
                  refine ko_iald3 mi_k21.1 (n := 6) (c := 6) (ax := (0, 0, 0, 0, 0)) (mi_k21.2 _ _ (by rfl)) (by rfl) (ksG73 _ _ _ _) (hL2.I.2.1 73) rfl (ow25 c22 kow0) (ow45 c27 kow6) ?_
                  first | refine fo_goS mi_k21 fz21_134_1_138 [.int ((a2 73).getD ((a2 61).getD l2_2.toNatClampNeg 0).toNatClampNeg 0), .ref 59] (by rfl) ?_ | refine fo_goS mi_k21 fz21_137_1_138 [.int ((a2 73).getD ((a2 61).getD l2_2.toNatClampNeg 0).toNatClampNeg 0), .ref 59] (by rfl) ?_
                  refine ko_callN mi_k21.1 (pc := 138) (ls := [(2, .int (l2_2 + 1)), (5, .int ((a2 61).getD l2_2.toNatClampNeg 0)), (4, .int ((a2 60).getD l2_2.toNatClampNeg 0)), (3, .int l3_2), (0, .ref 59), (1, .ref 73)]) (st := [.int ((a2 73).getD ((a2 61).getD l2_2.toNatClampNeg 0).toNatClampNeg 0), .ref 59]) (h := ks i2 a2 q2 r2) (i := (.invokevirtual 32, 3, 19, 0, 9, 0, 225)) (mi_k21.2 _ _ (by rfl)) (ft_invS mi_pq19 (by rfl)) (cy := mi_c19) mi_pq19 rfl (ke19_59 hL2.I hL2.R ((a2 73).getD ((a2 61).getD l2_2.toNatClampNeg 0).toNatClampNeg 0)) (by decide) ?_
                  intro ig28 ag28 qg28 rg28 kg28 hg28
                  have hGg28 := kG_call hL2 kg28 (by decide +kernel)
                  obtain ⟨hg28, og28⟩ := hg28
                  have fi2_3781 : ((0 : Int) ≤ (i2 3781).toInt) ∧ ((i2 3781).toInt ≤ 121) := hL2.I.1 3781
                  have fig28_3781 : ((0 : Int) ≤ (ig28 3781).toInt) ∧ ((ig28 3781).toInt ≤ 121) := hGg28.I.1 3781
                  have z29 : (((i2 3781).toInt ≤ 120) ∧ ((ig28 3781).toInt = ((i2 3781).toInt + 1))) ∨ (((121 : Int) ≤ (i2 3781).toInt) ∧ ((ig28 3781).toInt = (i2 3781).toInt)) := hg28
                  have s30 : (l3_2 + 1).toInt = l3_2.toInt + (1 : Int32).toInt := kd_add (ow32 p2_0 kow1) (ow38 c5 kow121 kow1)
                  first | refine fo_goL mi_k21 fz21_6_3_9 [(3, .int (l3_2 + 1)), (2, .int (l2_2 + 1)), (5, .int ((a2 61).getD l2_2.toNatClampNeg 0)), (4, .int ((a2 60).getD l2_2.toNatClampNeg 0)), (0, .ref 59), (1, .ref 73)] [] (by rfl) ?_ | refine fo_goL mi_k21 fz21_114_3_9 [(3, .int (l3_2 + 1)), (2, .int (l2_2 + 1)), (5, .int ((a2 61).getD l2_2.toNatClampNeg 0)), (4, .int ((a2 60).getD l2_2.toNatClampNeg 0)), (0, .ref 59), (1, .ref 73)] [] (by rfl) ?_ | refine fo_goL mi_k21 fz21_141_3_9 [(3, .int (l3_2 + 1)), (2, .int (l2_2 + 1)), (5, .int ((a2 61).getD l2_2.toNatClampNeg 0)), (4, .int ((a2 60).getD l2_2.toNatClampNeg 0)), (0, .ref 59), (1, .ref 73)] [] (by rfl) ?_ | refine fo_goL mi_k21 fz21_153_3_9 [(3, .int (l3_2 + 1)), (2, .int (l2_2 + 1)), (5, .int ((a2 61).getD l2_2.toNatClampNeg 0)), (4, .int ((a2 60).getD l2_2.toNatClampNeg 0)), (0, .ref 59), (1, .ref 73)] [] (by rfl) ?_ | refine fo_goL mi_k21 fz21_159_3_9 [(3, .int (l3_2 + 1)), (2, .int (l2_2 + 1)), (5, .int ((a2 61).getD l2_2.toNatClampNeg 0)), (4, .int ((a2 60).getD l2_2.toNatClampNeg 0)), (0, .ref 59), (1, .ref 73)] [] (by rfl) ?_ | refine fo_goL mi_k21 fz21_178_3_9 [(3, .int (l3_2 + 1)), (2, .int (l2_2 + 1)), (5, .int ((a2 61).getD l2_2.toNatClampNeg 0)), (4, .int ((a2 60).getD l2_2.toNatClampNeg 0)), (0, .ref 59), (1, .ref 73)] [] (by rfl) ?_ | refine fo_goL mi_k21 fz21_190_3_9 [(3, .int (l3_2 + 1)), (2, .int (l2_2 + 1)), (5, .int ((a2 61).getD l2_2.toNatClampNeg 0)), (4, .int ((a2 60).getD l2_2.toNatClampNeg 0)), (0, .ref 59), (1, .ref 73)] [] (by rfl) ?_ | refine ft_goL mi_k21 3 9 [(3, .int (l3_2 + 1)), (2, .int (l2_2 + 1)), (5, .int ((a2 61).getD l2_2.toNatClampNeg 0)), (4, .int ((a2 60).getD l2_2.toNatClampNeg 0)), (0, .ref 59), (1, .ref 73)] [] (by rfl) ?_ | refine ko_steps mi_in21 3 _ (9, [(3, .int (l3_2 + 1)), (2, .int (l2_2 + 1)), (5, .int ((a2 61).getD l2_2.toNatClampNeg 0)), (4, .int ((a2 60).getD l2_2.toNatClampNeg 0)), (0, .ref 59), (1, .ref 73)], [], (0, 0), ks ig28 ag28 qg28 rg28) (by rfl) ?_
                  refine ko_perm [(3, .int (l3_2 + 1)), (2, .int (l2_2 + 1)), (0, .ref 59), (1, .ref 73)] (List.forall_mem_cons.mpr ⟨(List.Mem.head _), (List.forall_mem_cons.mpr ⟨(List.Mem.tail _ (List.Mem.head _)), (List.forall_mem_cons.mpr ⟨(List.Mem.tail _ (List.Mem.tail _ (List.Mem.tail _ (List.Mem.tail _ (List.Mem.head _))))), (List.forall_mem_cons.mpr ⟨(List.Mem.tail _ (List.Mem.tail _ (List.Mem.tail _ (List.Mem.tail _ (List.Mem.tail _ (List.Mem.head _)))))), (fun _ h => absurd h List.not_mem_nil)⟩)⟩)⟩)⟩) ?_
                  exact ih2 _ _ _ _ _ _ hGg28 (ow34 p2_0 s30 kow1) (lRun_name O2_0 (kj_left (ow31 c5 kow121) (ow40 s30 kow1)) ⟨(ow25 c8 kow0), (ow39 c11 efi2_3779)⟩ (kL_cast (hL2.fa 60 rfl) (ow44 w17)) (by have k0_ : (0 : Int32).toInt = 0 := (by decide); have k6_ : (6 : Int32).toInt = 6 := (by decide); rw [← ((hL2.fa 61 rfl) : a2 61 = a 61), ← ((hL2.fa 73 rfl) : a2 73 = a 73)]; split <;> first | rfl | (exfalso; omega)) og28) (kj_meas (ow42 s30 kow1) (ow43 c5 kow121) hm2)
            by_cases w31 : ((a2 60).getD l2_2.toNatClampNeg 0).toInt = 2
            ·
              refine ft_swx mi_k21 (pc := 48) (v := 2) (t := 144) (kj_eq w31 (by decide) : ((a2 60).getD l2_2.toNatClampNeg 0) = 2) (by decide +kernel) ?_
              have hG32 := kG_call hJ1 hL2 (by decide +kernel)
              refine fo_goS mi_k21 fz21_144_1_145 [.ref 59] rfl ?_
              refine ko_callI mi_k21.1 (pc := 145) (ls := [(2, .int (l2_2 + 1)), (5, .int ((a2 61).getD l2_2.toNatClampNeg 0)), (4, .int ((a2 60).getD l2_2.toNatClampNeg 0)), (3, .int l3_2), (0, .ref 59), (1, .ref 73)]) (st := [.ref 59]) (h := ks i2 a2 q2 r2) (i := (.invokevirtual 36, 3, 20, 0, 9, 0, 226)) (mi_k21.2 _ _ (by rfl)) (ft_invS mi_pq20 (by rfl)) (cy := mi_c20) mi_pq20 rfl (ke20_59 hG32.I hG32.R ) (by decide) ?_
              intro vg33 ig33 ag33 qg33 rg33 kg33 hg33
              have hGg33 := kG_call hG32 kg33 (by decide +kernel)
              obtain ⟨hg33, og33⟩ := hg33
              exact ft_ret mi_k21 (by rfl) (hP vg33 _ _ _ _ hGg33 ⟨trivial, (show vg33 = lRun (a 60) (a 61) (a 73) (i 3779) 121 0 (a 62, 0) from (lRun_ans (n := (120 - l3_2.toInt).toNat) O2_0 (kj_left2 (ow31 c5 kow121)) ⟨(ow25 c8 kow0), (ow39 c11 efi2_3779)⟩ (kL_cast (hL2.fa 60 rfl) (ow55 w31)) og33))⟩)
            by_cases w35 : ((a2 60).getD l2_2.toNatClampNeg 0).toInt = 3
            ·
              refine ft_swx mi_k21 (pc := 48) (v := 3) (t := 149) (kj_eq w35 (by decide) : ((a2 60).getD l2_2.toNatClampNeg 0) = 3) (by decide +kernel) ?_
              refine fo_goS mi_k21 fz21_149_1_150 [.ref 59] rfl ?_
              refine ko_callI mi_k21.1 (pc := 150) (ls := [(2, .int (l2_2 + 1)), (5, .int ((a2 61).getD l2_2.toNatClampNeg 0)), (4, .int ((a2 60).getD l2_2.toNatClampNeg 0)), (3, .int l3_2), (0, .ref 59), (1, .ref 73)]) (st := [.ref 59]) (h := ks i2 a2 q2 r2) (i := (.invokevirtual 36, 3, 20, 0, 9, 0, 226)) (mi_k21.2 _ _ (by rfl)) (ft_invS mi_pq20 (by rfl)) (cy := mi_c20) mi_pq20 rfl (ke20_59 hL2.I hL2.R ) (by decide) ?_
              intro vg36 ig36 ag36 qg36 rg36 kg36 hg36
              have hGg36 := kG_call hL2 kg36 (by decide +kernel)
              obtain ⟨hg36, og36⟩ := hg36
              have fi2_3781 : ((0 : Int) ≤ (i2 3781).toInt) ∧ ((i2 3781).toInt ≤ 121) := hL2.I.1 3781
              have fig36_3781 : ((0 : Int) ≤ (ig36 3781).toInt) ∧ ((ig36 3781).toInt ≤ 121) := hGg36.I.1 3781
              have z37 : (((1 : Int) ≤ (i2 3781).toInt) ∧ ((ig36 3781).toInt = ((i2 3781).toInt - 1))) ∨ (((i2 3781).toInt ≤ 0) ∧ ((ig36 3781).toInt = (i2 3781).toInt)) := hg36
              refine ft_ifS mi_k21 (vg36 != 0) 214 156 [] (by rfl) (fun c => ?_) (fun c => ?_)
              ·
                have c38 : vg36.toInt ≠ (0 : Int32).toInt := kd_ne c; clear c
                have s39 : (l3_2 + 1).toInt = l3_2.toInt + (1 : Int32).toInt := kd_add (ow32 p2_0 kow1) (ow38 c5 kow121 kow1)
                first | refine fo_goL mi_k21 fz21_7_2_9 [(3, .int (l3_2 + 1)), (2, .int (l2_2 + 1)), (5, .int ((a2 61).getD l2_2.toNatClampNeg 0)), (4, .int ((a2 60).getD l2_2.toNatClampNeg 0)), (0, .ref 59), (1, .ref 73)] [] (by rfl) ?_ | refine fo_goL mi_k21 fz21_214_2_9 [(3, .int (l3_2 + 1)), (2, .int (l2_2 + 1)), (5, .int ((a2 61).getD l2_2.toNatClampNeg 0)), (4, .int ((a2 60).getD l2_2.toNatClampNeg 0)), (0, .ref 59), (1, .ref 73)] [] (by rfl) ?_
                refine ko_perm [(3, .int (l3_2 + 1)), (2, .int (l2_2 + 1)), (0, .ref 59), (1, .ref 73)] (List.forall_mem_cons.mpr ⟨(List.Mem.head _), (List.forall_mem_cons.mpr ⟨(List.Mem.tail _ (List.Mem.head _)), (List.forall_mem_cons.mpr ⟨(List.Mem.tail _ (List.Mem.tail _ (List.Mem.tail _ (List.Mem.tail _ (List.Mem.head _))))), (List.forall_mem_cons.mpr ⟨(List.Mem.tail _ (List.Mem.tail _ (List.Mem.tail _ (List.Mem.tail _ (List.Mem.tail _ (List.Mem.head _)))))), (fun _ h => absurd h List.not_mem_nil)⟩)⟩)⟩)⟩) ?_
                exact ih2 _ _ _ _ _ _ hGg36 (ow34 p2_0 s39 kow1) (lRun_skip O2_0 (kj_left (ow31 c5 kow121) (ow40 s39 kow1)) ⟨(ow25 c8 kow0), (ow39 c11 efi2_3779)⟩ (kL_cast (hL2.fa 60 rfl) (ow56 w35)) og36 (by have k0_ : (0 : Int32).toInt = 0 := (by decide); have k6_ : (6 : Int32).toInt = 6 := (by decide); rw [← ((hL2.fa 61 rfl) : a2 61 = a 61)]; split <;> first | rfl | (exfalso; omega))) (kj_meas (ow42 s39 kow1) (ow43 c5 kow121) hm2)
              ·
                have c40 : vg36.toInt = (0 : Int32).toInt := kd_neF c; clear c
                have s41 : (l3_2 + 1).toInt = l3_2.toInt + (1 : Int32).toInt := kd_add (ow32 p2_0 kow1) (ow38 c5 kow121 kow1)
                first | refine fo_go mi_k21 fz21_2_5_9 [(3, .int (l3_2 + 1)), (2, .int ((a2 61).getD l2_2.toNatClampNeg 0)), (5, .int ((a2 61).getD l2_2.toNatClampNeg 0)), (4, .int ((a2 60).getD l2_2.toNatClampNeg 0)), (0, .ref 59), (1, .ref 73)] [] ig36 ag36 qg36 rg36 (by rfl) ?_ | refine fo_goL mi_k21 fz21_156_5_9 [(3, .int (l3_2 + 1)), (2, .int ((a2 61).getD l2_2.toNatClampNeg 0)), (5, .int ((a2 61).getD l2_2.toNatClampNeg 0)), (4, .int ((a2 60).getD l2_2.toNatClampNeg 0)), (0, .ref 59), (1, .ref 73)] [] (by rfl) ?_ | refine ft_goL mi_k21 5 9 [(3, .int (l3_2 + 1)), (2, .int ((a2 61).getD l2_2.toNatClampNeg 0)), (5, .int ((a2 61).getD l2_2.toNatClampNeg 0)), (4, .int ((a2 60).getD l2_2.toNatClampNeg 0)), (0, .ref 59), (1, .ref 73)] [] (by rfl) ?_ | refine ft_go mi_k21 5 9 [(3, .int (l3_2 + 1)), (2, .int ((a2 61).getD l2_2.toNatClampNeg 0)), (5, .int ((a2 61).getD l2_2.toNatClampNeg 0)), (4, .int ((a2 60).getD l2_2.toNatClampNeg 0)), (0, .ref 59), (1, .ref 73)] [] ig36 ag36 qg36 rg36 (by rfl) ?_ | refine ko_steps mi_in21 5 _ (9, [(3, .int (l3_2 + 1)), (2, .int ((a2 61).getD l2_2.toNatClampNeg 0)), (5, .int ((a2 61).getD l2_2.toNatClampNeg 0)), (4, .int ((a2 60).getD l2_2.toNatClampNeg 0)), (0, .ref 59), (1, .ref 73)], [], (0, 0), ks ig36 ag36 qg36 rg36) (by rfl) ?_
                refine ko_perm [(3, .int (l3_2 + 1)), (2, .int ((a2 61).getD l2_2.toNatClampNeg 0)), (0, .ref 59), (1, .ref 73)] (List.forall_mem_cons.mpr ⟨(List.Mem.head _), (List.forall_mem_cons.mpr ⟨(List.Mem.tail _ (List.Mem.head _)), (List.forall_mem_cons.mpr ⟨(List.Mem.tail _ (List.Mem.tail _ (List.Mem.tail _ (List.Mem.tail _ (List.Mem.head _))))), (List.forall_mem_cons.mpr ⟨(List.Mem.tail _ (List.Mem.tail _ (List.Mem.tail _ (List.Mem.tail _ (List.Mem.tail _ (List.Mem.head _)))))), (fun _ h => absurd h List.not_mem_nil)⟩)⟩)⟩)⟩) ?_
                exact ih2 _ _ _ _ _ _ hGg36 (ow34 p2_0 s41 kow1) (lRun_skip O2_0 (kj_left (ow31 c5 kow121) (ow40 s41 kow1)) ⟨(ow25 c8 kow0), (ow39 c11 efi2_3779)⟩ (kL_cast (hL2.fa 60 rfl) (ow56 w35)) og36 (by have k0_ : (0 : Int32).toInt = 0 := (by decide); have k6_ : (6 : Int32).toInt = 6 := (by decide); rw [← ((hL2.fa 61 rfl) : a2 61 = a 61)]; split <;> first | rfl | (exfalso; omega))) (kj_meas (ow42 s41 kow1) (ow43 c5 kow121) hm2)
            by_cases w42 : ((a2 60).getD l2_2.toNatClampNeg 0).toInt = 33
            ·
              refine ft_swx mi_k21 (pc := 48) (v := 33) (t := 162) (kj_eq w42 (by decide) : ((a2 60).getD l2_2.toNatClampNeg 0) = 33) (by decide +kernel) ?_
              refine fo_goS mi_k21 fz21_162_2_164 [.ref 59, .ref 59] rfl ?_
              refine ko_callI mi_k21.1 (pc := 164) (ls := [(2, .int (l2_2 + 1)), (5, .int ((a2 61).getD l2_2.toNatClampNeg 0)), (4, .int ((a2 60).getD l2_2.toNatClampNeg 0)), (3, .int l3_2), (0, .ref 59), (1, .ref 73)]) (st := [.ref 59, .ref 59]) (h := ks i2 a2 q2 r2) (i := (.invokevirtual 36, 3, 20, 0, 9, 0, 226)) (mi_k21.2 _ _ (by rfl)) (ft_invS mi_pq20 (by rfl)) (cy := mi_c20) mi_pq20 rfl (ke20_59 hL2.I hL2.R ) (by decide) ?_
              intro vg43 ig43 ag43 qg43 rg43 kg43 hg43
              have hGg43 := kG_call hL2 kg43 (by decide +kernel)
              obtain ⟨hg43, og43⟩ := hg43
              have fi2_3781 : ((0 : Int) ≤ (i2 3781).toInt) ∧ ((i2 3781).toInt ≤ 121) := hL2.I.1 3781
              have fig43_3781 : ((0 : Int) ≤ (ig43 3781).toInt) ∧ ((ig43 3781).toInt ≤ 121) := hGg43.I.1 3781
              have z44 : (((1 : Int) ≤ (i2 3781).toInt) ∧ ((ig43 3781).toInt = ((i2 3781).toInt - 1))) ∨ (((i2 3781).toInt ≤ 0) ∧ ((ig43 3781).toInt = (i2 3781).toInt)) := hg43
              refine ft_ifS mi_k21 (vg43 != 0) 174 170 [.ref 59] (by rfl) (fun c => ?_) (fun c => ?_)
              ·
                have c45 : vg43.toInt ≠ (0 : Int32).toInt := kd_ne c; clear c
                first | refine fo_goS mi_k21 fz21_171_1_175 [.int 0, .ref 59] (by rfl) ?_ | refine fo_goS mi_k21 fz21_174_1_175 [.int 0, .ref 59] (by rfl) ?_
                refine ko_callN mi_k21.1 (pc := 175) (ls := [(2, .int (l2_2 + 1)), (5, .int ((a2 61).getD l2_2.toNatClampNeg 0)), (4, .int ((a2 60).getD l2_2.toNatClampNeg 0)), (3, .int l3_2), (0, .ref 59), (1, .ref 73)]) (st := [.int 0, .ref 59]) (h := ks ig43 ag43 qg43 rg43) (i := (.invokevirtual 32, 3, 19, 0, 9, 0, 225)) (mi_k21.2 _ _ (by rfl)) (ft_invS mi_pq19 (by rfl)) (cy := mi_c19) mi_pq19 rfl (ke19_59 hGg43.I hGg43.R 0) (by decide) ?_
                intro ig46 ag46 qg46 rg46 kg46 hg46
                have hGg46 := kG_call hGg43 kg46 (by decide +kernel)
                obtain ⟨hg46, og46⟩ := hg46
                have fig46_3781 : ((0 : Int) ≤ (ig46 3781).toInt) ∧ ((ig46 3781).toInt ≤ 121) := hGg46.I.1 3781
                have z47 : (((ig43 3781).toInt ≤ 120) ∧ ((ig46 3781).toInt = ((ig43 3781).toInt + 1))) ∨ (((121 : Int) ≤ (ig43 3781).toInt) ∧ ((ig46 3781).toInt = (ig43 3781).toInt)) := hg46
                have s48 : (l3_2 + 1).toInt = l3_2.toInt + (1 : Int32).toInt := kd_add (ow32 p2_0 kow1) (ow38 c5 kow121 kow1)
                first | refine fo_goL mi_k21 fz21_6_3_9 [(3, .int (l3_2 + 1)), (2, .int (l2_2 + 1)), (5, .int ((a2 61).getD l2_2.toNatClampNeg 0)), (4, .int ((a2 60).getD l2_2.toNatClampNeg 0)), (0, .ref 59), (1, .ref 73)] [] (by rfl) ?_ | refine fo_goL mi_k21 fz21_114_3_9 [(3, .int (l3_2 + 1)), (2, .int (l2_2 + 1)), (5, .int ((a2 61).getD l2_2.toNatClampNeg 0)), (4, .int ((a2 60).getD l2_2.toNatClampNeg 0)), (0, .ref 59), (1, .ref 73)] [] (by rfl) ?_ | refine fo_goL mi_k21 fz21_141_3_9 [(3, .int (l3_2 + 1)), (2, .int (l2_2 + 1)), (5, .int ((a2 61).getD l2_2.toNatClampNeg 0)), (4, .int ((a2 60).getD l2_2.toNatClampNeg 0)), (0, .ref 59), (1, .ref 73)] [] (by rfl) ?_ | refine fo_goL mi_k21 fz21_153_3_9 [(3, .int (l3_2 + 1)), (2, .int (l2_2 + 1)), (5, .int ((a2 61).getD l2_2.toNatClampNeg 0)), (4, .int ((a2 60).getD l2_2.toNatClampNeg 0)), (0, .ref 59), (1, .ref 73)] [] (by rfl) ?_ | refine fo_goL mi_k21 fz21_159_3_9 [(3, .int (l3_2 + 1)), (2, .int (l2_2 + 1)), (5, .int ((a2 61).getD l2_2.toNatClampNeg 0)), (4, .int ((a2 60).getD l2_2.toNatClampNeg 0)), (0, .ref 59), (1, .ref 73)] [] (by rfl) ?_ | refine fo_goL mi_k21 fz21_178_3_9 [(3, .int (l3_2 + 1)), (2, .int (l2_2 + 1)), (5, .int ((a2 61).getD l2_2.toNatClampNeg 0)), (4, .int ((a2 60).getD l2_2.toNatClampNeg 0)), (0, .ref 59), (1, .ref 73)] [] (by rfl) ?_ | refine fo_goL mi_k21 fz21_190_3_9 [(3, .int (l3_2 + 1)), (2, .int (l2_2 + 1)), (5, .int ((a2 61).getD l2_2.toNatClampNeg 0)), (4, .int ((a2 60).getD l2_2.toNatClampNeg 0)), (0, .ref 59), (1, .ref 73)] [] (by rfl) ?_ | refine ft_goL mi_k21 3 9 [(3, .int (l3_2 + 1)), (2, .int (l2_2 + 1)), (5, .int ((a2 61).getD l2_2.toNatClampNeg 0)), (4, .int ((a2 60).getD l2_2.toNatClampNeg 0)), (0, .ref 59), (1, .ref 73)] [] (by rfl) ?_ | refine ko_steps mi_in21 3 _ (9, [(3, .int (l3_2 + 1)), (2, .int (l2_2 + 1)), (5, .int ((a2 61).getD l2_2.toNatClampNeg 0)), (4, .int ((a2 60).getD l2_2.toNatClampNeg 0)), (0, .ref 59), (1, .ref 73)], [], (0, 0), ks ig46 ag46 qg46 rg46) (by rfl) ?_
                refine ko_perm [(3, .int (l3_2 + 1)), (2, .int (l2_2 + 1)), (0, .ref 59), (1, .ref 73)] (List.forall_mem_cons.mpr ⟨(List.Mem.head _), (List.forall_mem_cons.mpr ⟨(List.Mem.tail _ (List.Mem.head _)), (List.forall_mem_cons.mpr ⟨(List.Mem.tail _ (List.Mem.tail _ (List.Mem.tail _ (List.Mem.tail _ (List.Mem.head _))))), (List.forall_mem_cons.mpr ⟨(List.Mem.tail _ (List.Mem.tail _ (List.Mem.tail _ (List.Mem.tail _ (List.Mem.tail _ (List.Mem.head _)))))), (fun _ h => absurd h List.not_mem_nil)⟩)⟩)⟩)⟩) ?_
                exact ih2 _ _ _ _ _ _ hGg46 (ow34 p2_0 s48 kow1) (lRun_not O2_0 (kj_left (ow31 c5 kow121) (ow40 s48 kow1)) ⟨(ow25 c8 kow0), (ow39 c11 efi2_3779)⟩ (kL_cast (hL2.fa 60 rfl) (ow57 w42)) og43 (by have k0_ : (0 : Int32).toInt = 0 := (by decide); have k6_ : (6 : Int32).toInt = 6 := (by decide); split <;> first | rfl | (exfalso; omega)) og46) (kj_meas (ow42 s48 kow1) (ow43 c5 kow121) hm2)
              ·
                have c49 : vg43.toInt = (0 : Int32).toInt := kd_neF c; clear c
                first | refine fo_goS mi_k21 fz21_170_2_175 [.int 1, .ref 59] (by rfl) ?_ | refine fo_goS mi_k21 fz21_167_2_175 [.int 1, .ref 59] (by rfl) ?_
                refine ko_callN mi_k21.1 (pc := 175) (ls := [(2, .int (l2_2 + 1)), (5, .int ((a2 61).getD l2_2.toNatClampNeg 0)), (4, .int ((a2 60).getD l2_2.toNatClampNeg 0)), (3, .int l3_2), (0, .ref 59), (1, .ref 73)]) (st := [.int 1, .ref 59]) (h := ks ig43 ag43 qg43 rg43) (i := (.invokevirtual 32, 3, 19, 0, 9, 0, 225)) (mi_k21.2 _ _ (by rfl)) (ft_invS mi_pq19 (by rfl)) (cy := mi_c19) mi_pq19 rfl (ke19_59 hGg43.I hGg43.R 1) (by decide) ?_
                intro ig50 ag50 qg50 rg50 kg50 hg50
                have hGg50 := kG_call hGg43 kg50 (by decide +kernel)
                obtain ⟨hg50, og50⟩ := hg50
                have fig50_3781 : ((0 : Int) ≤ (ig50 3781).toInt) ∧ ((ig50 3781).toInt ≤ 121) := hGg50.I.1 3781
                have z51 : (((ig43 3781).toInt ≤ 120) ∧ ((ig50 3781).toInt = ((ig43 3781).toInt + 1))) ∨ (((121 : Int) ≤ (ig43 3781).toInt) ∧ ((ig50 3781).toInt = (ig43 3781).toInt)) := hg50
                have s52 : (l3_2 + 1).toInt = l3_2.toInt + (1 : Int32).toInt := kd_add (ow32 p2_0 kow1) (ow38 c5 kow121 kow1)
                first | refine fo_goL mi_k21 fz21_6_3_9 [(3, .int (l3_2 + 1)), (2, .int (l2_2 + 1)), (5, .int ((a2 61).getD l2_2.toNatClampNeg 0)), (4, .int ((a2 60).getD l2_2.toNatClampNeg 0)), (0, .ref 59), (1, .ref 73)] [] (by rfl) ?_ | refine fo_goL mi_k21 fz21_114_3_9 [(3, .int (l3_2 + 1)), (2, .int (l2_2 + 1)), (5, .int ((a2 61).getD l2_2.toNatClampNeg 0)), (4, .int ((a2 60).getD l2_2.toNatClampNeg 0)), (0, .ref 59), (1, .ref 73)] [] (by rfl) ?_ | refine fo_goL mi_k21 fz21_141_3_9 [(3, .int (l3_2 + 1)), (2, .int (l2_2 + 1)), (5, .int ((a2 61).getD l2_2.toNatClampNeg 0)), (4, .int ((a2 60).getD l2_2.toNatClampNeg 0)), (0, .ref 59), (1, .ref 73)] [] (by rfl) ?_ | refine fo_goL mi_k21 fz21_153_3_9 [(3, .int (l3_2 + 1)), (2, .int (l2_2 + 1)), (5, .int ((a2 61).getD l2_2.toNatClampNeg 0)), (4, .int ((a2 60).getD l2_2.toNatClampNeg 0)), (0, .ref 59), (1, .ref 73)] [] (by rfl) ?_ | refine fo_goL mi_k21 fz21_159_3_9 [(3, .int (l3_2 + 1)), (2, .int (l2_2 + 1)), (5, .int ((a2 61).getD l2_2.toNatClampNeg 0)), (4, .int ((a2 60).getD l2_2.toNatClampNeg 0)), (0, .ref 59), (1, .ref 73)] [] (by rfl) ?_ | refine fo_goL mi_k21 fz21_178_3_9 [(3, .int (l3_2 + 1)), (2, .int (l2_2 + 1)), (5, .int ((a2 61).getD l2_2.toNatClampNeg 0)), (4, .int ((a2 60).getD l2_2.toNatClampNeg 0)), (0, .ref 59), (1, .ref 73)] [] (by rfl) ?_ | refine fo_goL mi_k21 fz21_190_3_9 [(3, .int (l3_2 + 1)), (2, .int (l2_2 + 1)), (5, .int ((a2 61).getD l2_2.toNatClampNeg 0)), (4, .int ((a2 60).getD l2_2.toNatClampNeg 0)), (0, .ref 59), (1, .ref 73)] [] (by rfl) ?_ | refine ft_goL mi_k21 3 9 [(3, .int (l3_2 + 1)), (2, .int (l2_2 + 1)), (5, .int ((a2 61).getD l2_2.toNatClampNeg 0)), (4, .int ((a2 60).getD l2_2.toNatClampNeg 0)), (0, .ref 59), (1, .ref 73)] [] (by rfl) ?_ | refine ko_steps mi_in21 3 _ (9, [(3, .int (l3_2 + 1)), (2, .int (l2_2 + 1)), (5, .int ((a2 61).getD l2_2.toNatClampNeg 0)), (4, .int ((a2 60).getD l2_2.toNatClampNeg 0)), (0, .ref 59), (1, .ref 73)], [], (0, 0), ks ig50 ag50 qg50 rg50) (by rfl) ?_
                refine ko_perm [(3, .int (l3_2 + 1)), (2, .int (l2_2 + 1)), (0, .ref 59), (1, .ref 73)] (List.forall_mem_cons.mpr ⟨(List.Mem.head _), (List.forall_mem_cons.mpr ⟨(List.Mem.tail _ (List.Mem.head _)), (List.forall_mem_cons.mpr ⟨(List.Mem.tail _ (List.Mem.tail _ (List.Mem.tail _ (List.Mem.tail _ (List.Mem.head _))))), (List.forall_mem_cons.mpr ⟨(List.Mem.tail _ (List.Mem.tail _ (List.Mem.tail _ (List.Mem.tail _ (List.Mem.tail _ (List.Mem.head _)))))), (fun _ h => absurd h List.not_mem_nil)⟩)⟩)⟩)⟩) ?_
                exact ih2 _ _ _ _ _ _ hGg50 (ow34 p2_0 s52 kow1) (lRun_not O2_0 (kj_left (ow31 c5 kow121) (ow40 s52 kow1)) ⟨(ow25 c8 kow0), (ow39 c11 efi2_3779)⟩ (kL_cast (hL2.fa 60 rfl) (ow57 w42)) og43 (by have k0_ : (0 : Int32).toInt = 0 := (by decide); have k6_ : (6 : Int32).toInt = 6 := (by decide); split <;> first | rfl | (exfalso; omega)) og50) (kj_meas (ow42 s52 kow1) (ow43 c5 kow121) hm2)
            by_cases w53 : ((a2 60).getD l2_2.toNatClampNeg 0).toInt = 126
            ·
              refine ft_swx mi_k21 (pc := 48) (v := 126) (t := 181) (kj_eq w53 (by decide) : ((a2 60).getD l2_2.toNatClampNeg 0) = 126) (by decide +kernel) ?_
              refine fo_goS mi_k21 fz21_181_2_183 [.ref 59, .ref 59] rfl ?_
              refine ko_callI mi_k21.1 (pc := 183) (ls := [(2, .int (l2_2 + 1)), (5, .int ((a2 61).getD l2_2.toNatClampNeg 0)), (4, .int ((a2 60).getD l2_2.toNatClampNeg 0)), (3, .int l3_2), (0, .ref 59), (1, .ref 73)]) (st := [.ref 59, .ref 59]) (h := ks i2 a2 q2 r2) (i := (.invokevirtual 36, 3, 20, 0, 9, 0, 226)) (mi_k21.2 _ _ (by rfl)) (ft_invS mi_pq20 (by rfl)) (cy := mi_c20) mi_pq20 rfl (ke20_59 hL2.I hL2.R ) (by decide) ?_
              intro vg54 ig54 ag54 qg54 rg54 kg54 hg54
              have hGg54 := kG_call hL2 kg54 (by decide +kernel)
              obtain ⟨hg54, og54⟩ := hg54
              refine fo_goS mi_k21 fz21_186_1_187 [.int (-vg54), .ref 59] rfl ?_
              refine ko_callN mi_k21.1 (pc := 187) (ls := [(2, .int (l2_2 + 1)), (5, .int ((a2 61).getD l2_2.toNatClampNeg 0)), (4, .int ((a2 60).getD l2_2.toNatClampNeg 0)), (3, .int l3_2), (0, .ref 59), (1, .ref 73)]) (st := [.int (-vg54), .ref 59]) (h := ks ig54 ag54 qg54 rg54) (i := (.invokevirtual 32, 3, 19, 0, 9, 0, 225)) (mi_k21.2 _ _ (by rfl)) (ft_invS mi_pq19 (by rfl)) (cy := mi_c19) mi_pq19 rfl (ke19_59 hGg54.I hGg54.R (-vg54)) (by decide) ?_
              intro ig56 ag56 qg56 rg56 kg56 hg56
              have hGg56 := kG_call hGg54 kg56 (by decide +kernel)
              obtain ⟨hg56, og56⟩ := hg56
              have s58 : (l3_2 + 1).toInt = l3_2.toInt + (1 : Int32).toInt := kd_add (ow32 p2_0 kow1) (ow38 c5 kow121 kow1)
              first | refine fo_goL mi_k21 fz21_6_3_9 [(3, .int (l3_2 + 1)), (2, .int (l2_2 + 1)), (5, .int ((a2 61).getD l2_2.toNatClampNeg 0)), (4, .int ((a2 60).getD l2_2.toNatClampNeg 0)), (0, .ref 59), (1, .ref 73)] [] (by rfl) ?_ | refine fo_goL mi_k21 fz21_114_3_9 [(3, .int (l3_2 + 1)), (2, .int (l2_2 + 1)), (5, .int ((a2 61).getD l2_2.toNatClampNeg 0)), (4, .int ((a2 60).getD l2_2.toNatClampNeg 0)), (0, .ref 59), (1, .ref 73)] [] (by rfl) ?_ | refine fo_goL mi_k21 fz21_141_3_9 [(3, .int (l3_2 + 1)), (2, .int (l2_2 + 1)), (5, .int ((a2 61).getD l2_2.toNatClampNeg 0)), (4, .int ((a2 60).getD l2_2.toNatClampNeg 0)), (0, .ref 59), (1, .ref 73)] [] (by rfl) ?_ | refine fo_goL mi_k21 fz21_153_3_9 [(3, .int (l3_2 + 1)), (2, .int (l2_2 + 1)), (5, .int ((a2 61).getD l2_2.toNatClampNeg 0)), (4, .int ((a2 60).getD l2_2.toNatClampNeg 0)), (0, .ref 59), (1, .ref 73)] [] (by rfl) ?_ | refine fo_goL mi_k21 fz21_159_3_9 [(3, .int (l3_2 + 1)), (2, .int (l2_2 + 1)), (5, .int ((a2 61).getD l2_2.toNatClampNeg 0)), (4, .int ((a2 60).getD l2_2.toNatClampNeg 0)), (0, .ref 59), (1, .ref 73)] [] (by rfl) ?_ | refine fo_goL mi_k21 fz21_178_3_9 [(3, .int (l3_2 + 1)), (2, .int (l2_2 + 1)), (5, .int ((a2 61).getD l2_2.toNatClampNeg 0)), (4, .int ((a2 60).getD l2_2.toNatClampNeg 0)), (0, .ref 59), (1, .ref 73)] [] (by rfl) ?_ | refine fo_goL mi_k21 fz21_190_3_9 [(3, .int (l3_2 + 1)), (2, .int (l2_2 + 1)), (5, .int ((a2 61).getD l2_2.toNatClampNeg 0)), (4, .int ((a2 60).getD l2_2.toNatClampNeg 0)), (0, .ref 59), (1, .ref 73)] [] (by rfl) ?_ | refine ft_goL mi_k21 3 9 [(3, .int (l3_2 + 1)), (2, .int (l2_2 + 1)), (5, .int ((a2 61).getD l2_2.toNatClampNeg 0)), (4, .int ((a2 60).getD l2_2.toNatClampNeg 0)), (0, .ref 59), (1, .ref 73)] [] (by rfl) ?_ | refine ko_steps mi_in21 3 _ (9, [(3, .int (l3_2 + 1)), (2, .int (l2_2 + 1)), (5, .int ((a2 61).getD l2_2.toNatClampNeg 0)), (4, .int ((a2 60).getD l2_2.toNatClampNeg 0)), (0, .ref 59), (1, .ref 73)], [], (0, 0), ks ig56 ag56 qg56 rg56) (by rfl) ?_
              refine ko_perm [(3, .int (l3_2 + 1)), (2, .int (l2_2 + 1)), (0, .ref 59), (1, .ref 73)] (List.forall_mem_cons.mpr ⟨(List.Mem.head _), (List.forall_mem_cons.mpr ⟨(List.Mem.tail _ (List.Mem.head _)), (List.forall_mem_cons.mpr ⟨(List.Mem.tail _ (List.Mem.tail _ (List.Mem.tail _ (List.Mem.tail _ (List.Mem.head _))))), (List.forall_mem_cons.mpr ⟨(List.Mem.tail _ (List.Mem.tail _ (List.Mem.tail _ (List.Mem.tail _ (List.Mem.tail _ (List.Mem.head _)))))), (fun _ h => absurd h List.not_mem_nil)⟩)⟩)⟩)⟩) ?_
              exact ih2 _ _ _ _ _ _ hGg56 (ow34 p2_0 s58 kow1) (lRun_neg O2_0 (kj_left (ow31 c5 kow121) (ow40 s58 kow1)) ⟨(ow25 c8 kow0), (ow39 c11 efi2_3779)⟩ (kL_cast (hL2.fa 60 rfl) (ow58 w53)) og54 rfl og56) (kj_meas (ow42 s58 kow1) (ow43 c5 kow121) hm2)
            refine ko_lsw (ls := [(2, .int (l2_2 + 1)), (5, .int ((a2 61).getD l2_2.toNatClampNeg 0)), (4, .int ((a2 60).getD l2_2.toNatClampNeg 0)), (3, .int l3_2), (0, .ref 59), (1, .ref 73)]) (r := []) (h := ks i2 a2 q2 r2) mi_in21 (v := ((a2 60).getD l2_2.toNatClampNeg 0)) (i := (.lookupswitch 145 #[(0, 60), (1, 69), (2, 96), (3, 101), (33, 114), (126, 133)], 60, 0, 0, 0, 0, 0)) (by rfl) rfl (by simp only [Op.lookupswitch.offset, if_neg (Ne.symm w13), if_neg (Ne.symm w17), if_neg (Ne.symm w31), if_neg (Ne.symm w35), if_neg (Ne.symm w42), if_neg (Ne.symm w53)] <;> rfl) 193 (by rfl) ?_
            refine fo_goS mi_k21 fz21_193_1_194 [.ref 59] rfl ?_
            refine ko_callI mi_k21.1 (pc := 194) (ls := [(2, .int (l2_2 + 1)), (5, .int ((a2 61).getD l2_2.toNatClampNeg 0)), (4, .int ((a2 60).getD l2_2.toNatClampNeg 0)), (3, .int l3_2), (0, .ref 59), (1, .ref 73)]) (st := [.ref 59]) (h := ks i2 a2 q2 r2) (i := (.invokevirtual 36, 3, 20, 0, 9, 0, 226)) (mi_k21.2 _ _ (by rfl)) (ft_invS mi_pq20 (by rfl)) (cy := mi_c20) mi_pq20 rfl (ke20_59 hL2.I hL2.R ) (by decide) ?_
            intro vg59 ig59 ag59 qg59 rg59 kg59 hg59
            have hGg59 := kG_call hL2 kg59 (by decide +kernel)
            obtain ⟨hg59, og59⟩ := hg59
            refine fo_goL mi_k21 fz21_197_4_203 [(6, .int vg59), (2, .int (l2_2 + 1)), (5, .int ((a2 61).getD l2_2.toNatClampNeg 0)), (4, .int ((a2 60).getD l2_2.toNatClampNeg 0)), (3, .int l3_2), (0, .ref 59), (1, .ref 73)] [.ref 59, .int ((a2 60).getD l2_2.toNatClampNeg 0), .ref 59] rfl ?_
            refine ko_callI mi_k21.1 (pc := 203) (ls := [(6, .int vg59), (2, .int (l2_2 + 1)), (5, .int ((a2 61).getD l2_2.toNatClampNeg 0)), (4, .int ((a2 60).getD l2_2.toNatClampNeg 0)), (3, .int l3_2), (0, .ref 59), (1, .ref 73)]) (st := [.ref 59, .int ((a2 60).getD l2_2.toNatClampNeg 0), .ref 59]) (h := ks ig59 ag59 qg59 rg59) (i := (.invokevirtual 36, 3, 20, 0, 9, 0, 226)) (mi_k21.2 _ _ (by rfl)) (ft_invS mi_pq20 (by rfl)) (cy := mi_c20) mi_pq20 rfl (ke20_59 hGg59.I hGg59.R ) (by decide) ?_
            intro vg61 ig61 ag61 qg61 rg61 kg61 hg61
            have hGg61 := kG_call hGg59 kg61 (by decide +kernel)
            obtain ⟨hg61, og61⟩ := hg61
            refine fo_goS mi_k21 fz21_206_1_208 [.int vg59, .int vg61, .int ((a2 60).getD l2_2.toNatClampNeg 0), .ref 59] rfl ?_
            refine ko_callPI mi_k21.1 (pc := 208) (ls := [(6, .int vg59), (2, .int (l2_2 + 1)), (5, .int ((a2 61).getD l2_2.toNatClampNeg 0)), (4, .int ((a2 60).getD l2_2.toNatClampNeg 0)), (3, .int l3_2), (0, .ref 59), (1, .ref 73)]) (st := [.int vg59, .int vg61, .int ((a2 60).getD l2_2.toNatClampNeg 0), .ref 59]) (h := ks ig61 ag61 qg61 rg61) (i := (.invokestatic 40, 3, 22, 0, 9, 0, 227)) (mi_k21.2 _ _ (by rfl)) (ft_invS mi_pq22 (by rfl)) (cy := mi_c22) mi_pq22 rfl (ke22 hGg61.I hGg61.R ((a2 60).getD l2_2.toNatClampNeg 0) vg61 vg59) (by decide) ?_
            intro vg63 hg63
            obtain ⟨hg63, og63⟩ := hg63
            have q64 : vg63 = cJoin ((a2 60).getD l2_2.toNatClampNeg 0) vg61 vg59 := og63
            refine ko_callN mi_k21.1 (pc := 211) (ls := [(6, .int vg59), (2, .int (l2_2 + 1)), (5, .int ((a2 61).getD l2_2.toNatClampNeg 0)), (4, .int ((a2 60).getD l2_2.toNatClampNeg 0)), (3, .int l3_2), (0, .ref 59), (1, .ref 73)]) (st := [.int vg63, .ref 59]) (h := ks ig61 ag61 qg61 rg61) (i := (.invokevirtual 32, 3, 19, 0, 9, 0, 225)) (mi_k21.2 _ _ (by rfl)) (ft_invS mi_pq19 (by rfl)) (cy := mi_c19) mi_pq19 rfl (ke19_59 hGg61.I hGg61.R vg63) (by decide) ?_
            intro ig65 ag65 qg65 rg65 kg65 hg65
            have hGg65 := kG_call hGg61 kg65 (by decide +kernel)
            obtain ⟨hg65, og65⟩ := hg65
            have s67 : (l3_2 + 1).toInt = l3_2.toInt + (1 : Int32).toInt := kd_add (ow32 p2_0 kow1) (ow38 c5 kow121 kow1)
            first | refine fo_goL mi_k21 fz21_7_2_9 [(3, .int (l3_2 + 1)), (6, .int vg59), (2, .int (l2_2 + 1)), (5, .int ((a2 61).getD l2_2.toNatClampNeg 0)), (4, .int ((a2 60).getD l2_2.toNatClampNeg 0)), (0, .ref 59), (1, .ref 73)] [] (by rfl) ?_ | refine fo_goL mi_k21 fz21_214_2_9 [(3, .int (l3_2 + 1)), (6, .int vg59), (2, .int (l2_2 + 1)), (5, .int ((a2 61).getD l2_2.toNatClampNeg 0)), (4, .int ((a2 60).getD l2_2.toNatClampNeg 0)), (0, .ref 59), (1, .ref 73)] [] (by rfl) ?_
            refine ko_perm [(3, .int (l3_2 + 1)), (2, .int (l2_2 + 1)), (0, .ref 59), (1, .ref 73)] (List.forall_mem_cons.mpr ⟨(List.Mem.head _), (List.forall_mem_cons.mpr ⟨(List.Mem.tail _ (List.Mem.tail _ (List.Mem.head _))), (List.forall_mem_cons.mpr ⟨(List.Mem.tail _ (List.Mem.tail _ (List.Mem.tail _ (List.Mem.tail _ (List.Mem.tail _ (List.Mem.head _)))))), (List.forall_mem_cons.mpr ⟨(List.Mem.tail _ (List.Mem.tail _ (List.Mem.tail _ (List.Mem.tail _ (List.Mem.tail _ (List.Mem.tail _ (List.Mem.head _))))))), (fun _ h => absurd h List.not_mem_nil)⟩)⟩)⟩)⟩) ?_
            exact ih2 _ _ _ _ _ _ hGg65 (ow34 p2_0 s67 kow1) (lRun_bin O2_0 (kj_left (ow31 c5 kow121) (ow40 s67 kow1)) ⟨(ow25 c8 kow0), (ow39 c11 efi2_3779)⟩ (kL_castn (hL2.fa 60 rfl) (ow60 w13)) (kL_castn (hL2.fa 60 rfl) (ow61 w13 w17)) (kL_castn (hL2.fa 60 rfl) (ow62 w13 w17 w31)) (kL_castn (hL2.fa 60 rfl) (ow63 w13 w17 w31 w35)) (kL_castn (hL2.fa 60 rfl) (ow64 w42)) (kL_castn (hL2.fa 60 rfl) (ow65 w53)) og59 og61 (og63.trans (congrArg (fun z : List Int32 => cJoin (z.getD l2_2.toNatClampNeg 0) _ _) (hL2.fa 60 rfl))) og65) (kj_meas (ow42 s67 kow1) (ow43 c5 kow121) hm2)
  exact lp2 _ _ _ _ _ _ _ (kG_self _ hJ1.I hJ1.R) (ow9 kow0) (by rw [kow0]; rfl) (Nat.lt_succ_self _)
noncomputable def yw21_10_73 : kW := ([645], [13], [], [])
noncomputable def yw21_10_73_L9 : kW := ([645], [13], [], [])
set_option maxRecDepth 100000 in
theorem ke21_10_73 {i : Nat → Int32} {a : Nat → List Int32} {q : Nat → List Int64} {r : Nat → Nat} (hI : kI i a q) (hr : kr r)  : km 3 21 [.ref 10, .ref 73] (ks i a q r) (kVI yw21_10_73 i a q r (fun v i1 a1 q1 r1 => (True) ∧ v = lRun (a 11) (a 12) (a 73) (i 643) 121 0 (a 13, 0))) := by
  have hG := kG_self yw21_10_73 hI hr
  refine km_ofI (q := (mi_h21, mi_c21)) rfl (by decide) (Nat.le_of_ble_eq_true rfl) ?_
  intro P hP
  have hJ1 := kG_i hG 645 rfl (v := 0) ⟨(ow9 kow0), (ow21 kow0)⟩
  first | refine fo_go mi_k21 fz21_0_7_9 [(3, .int 0), (2, .int 0), (0, .ref 10), (1, .ref 73)] [] (ku i 645 0) a q r (by rfl) ?_ | refine ft_goL mi_k21 7 9 [(3, .int 0), (2, .int 0), (0, .ref 10), (1, .ref 73)] [] (by rfl) ?_ | refine ft_go mi_k21 7 9 [(3, .int 0), (2, .int 0), (0, .ref 10), (1, .ref 73)] [] (ku i 645 0) a q r (by rfl) ?_ | refine ko_steps mi_in21 7 _ (9, [(3, .int 0), (2, .int 0), (0, .ref 10), (1, .ref 73)], [], (0, 0), ks (ku i 645 0) a q r) (by rfl) ?_
  have lp2 : ∀ (nz : Nat) (i2 : Nat → Int32) (a2 : Nat → List Int32) (q2 : Nat → List Int64) (r2 : Nat → Nat) (l3_2 : Int32) (l2_2 : Int32), kG yw21_10_73_L9 (ku i 645 0) a q r i2 a2 q2 r2 → (0 : Int) ≤ l3_2.toInt → lRun (a 11) (a 12) (a 73) (i 643) (121 - l3_2.toInt).toNat l2_2 (a2 13, i2 645) = lRun (a 11) (a 12) (a 73) (i 643) 121 0 (a 13, 0) → ((121 - l3_2.toInt)).toNat < nz → ko 3 (mi_h21, mi_c21) P (9, [(3, .int l3_2), (2, .int l2_2), (0, .ref 10), (1, .ref 73)], [], (0, 0), ks i2 a2 q2 r2) := by
    intro nz
    induction nz with
    | zero =>
      intro _ _ _ _ _ _ _ _ _ hm
      exact absurd hm (Nat.not_lt_zero _)
    | succ nz ih2 =>
      intro i2 a2 q2 r2 l3_2 l2_2 hL2 p2_0 O2_0 hm2
      refine fo_goL mi_k21 fz21_9_2_12 [(3, .int l3_2), (2, .int l2_2), (0, .ref 10), (1, .ref 73)] [.int 121, .int l3_2] rfl ?_
      refine ft_ifS mi_k21 (decide (121 ≤ l3_2)) 220 15 [] (by rfl) (fun c => ?_) (fun c => ?_)
      ·
        have c3 : (121 : Int32).toInt ≤ l3_2.toInt := kd_le c; clear c
        have hG4 := kG_call hJ1 hL2 (by decide +kernel)
        refine fo_goS mi_k21 fz21_220_1_221 [.int 0] rfl ?_
        exact ft_ret mi_k21 (by rfl) (hP 0 _ _ _ _ hG4 ⟨trivial, (show (0 : Int32) = lRun (a 11) (a 12) (a 73) (i 643) 121 0 (a 13, 0) from (lRun_end O2_0 (kj_none (ow22 c3 kow121))).symm)⟩)
      ·
        have c5 : l3_2.toInt < (121 : Int32).toInt := kd_leF c; clear c
        refine fo_goS mi_k21 fz21_15_1_16 [.int l2_2] rfl ?_
        refine ft_ifS mi_k21 (decide (l2_2 < 0)) 220 19 [] (by rfl) (fun c => ?_) (fun c => ?_)
        ·
          have c6 : l2_2.toInt < (0 : Int32).toInt := kd_lt c; clear c
          have hG7 := kG_call hJ1 hL2 (by decide +kernel)
          refine fo_goS mi_k21 fz21_220_1_221 [.int 0] rfl ?_
          exact ft_ret mi_k21 (by rfl) (hP 0 _ _ _ _ hG7 ⟨trivial, (show (0 : Int32) = lRun (a 11) (a 12) (a 73) (i 643) 121 0 (a 13, 0) from (lRun_out O2_0 (ow23 c6 kow0)).symm)⟩)
        ·
          have c8 : (0 : Int32).toInt ≤ l2_2.toInt := kd_ltF c; clear c
          have fi2_643 : ((0 : Int) ≤ (i2 643).toInt) ∧ ((i2 643).toInt ≤ 121) := hL2.I.1 643
          have fi_643 : ((0 : Int) ≤ (i 643).toInt) ∧ ((i 643).toInt ≤ 121) := hJ1.I.1 643
          have efi2_643 : (i2 643).toInt = (i 643).toInt := hL2.ti 643 rfl
          refine fo_goS mi_k21 fz21_19_3_24 [.int (i2 643), .int l2_2] rfl ?_
          refine ft_ifS mi_k21 (decide ((i2 643) ≤ l2_2)) 220 27 [] (by rfl) (fun c => ?_) (fun c => ?_)
          ·
            have c9 : (i2 643).toInt ≤ l2_2.toInt := kd_le c; clear c
            have hG10 := kG_call hJ1 hL2 (by decide +kernel)
            refine fo_goS mi_k21 fz21_220_1_221 [.int 0] rfl ?_
            exact ft_ret mi_k21 (by rfl) (hP 0 _ _ _ _ hG10 ⟨trivial, (show (0 : Int32) = lRun (a 11) (a 12) (a 73) (i 643) 121 0 (a 13, 0) from (lRun_out O2_0 (ow24 c9 efi2_643)).symm)⟩)
          ·
            have c11 : l2_2.toInt < (i2 643).toInt := kd_leF c; clear c
            refine fo_goS mi_k21 fz21_27_3_32 [.int l2_2, .ref 11] rfl ?_
            refine ko_iald3 mi_k21.1 (n := 121) (c := 121) (ax := (0, 0, 0, 0, 0)) (mi_k21.2 _ _ (by rfl)) (by rfl) (ksG11 _ _ _ _) (hL2.I.2.1 11) rfl (ow25 c8 kow0) (ow26 c11 fi2_643.2) ?_
            refine fo_goL mi_k21 fz21_33_4_40 [(4, .int ((a2 11).getD l2_2.toNatClampNeg 0)), (3, .int l3_2), (2, .int l2_2), (0, .ref 10), (1, .ref 73)] [.int l2_2, .ref 12] rfl ?_
            refine ko_iald3 mi_k21.1 (n := 121) (c := 121) (ax := (0, 0, 0, 0, 0)) (mi_k21.2 _ _ (by rfl)) (by rfl) (ksG12 _ _ _ _) (hL2.I.2.1 12) rfl (ow25 c8 kow0) (ow26 c11 fi2_643.2) ?_
            have s12 : (l2_2 + 1).toInt = l2_2.toInt + (1 : Int32).toInt := kd_add (ow27 c8 kow0 kow1) (ow28 c11 fi2_643.2 kow1)
            refine fo_goL mi_k21 fz21_41_3_48 [(2, .int (l2_2 + 1)), (5, .int ((a2 12).getD l2_2.toNatClampNeg 0)), (4, .int ((a2 11).getD l2_2.toNatClampNeg 0)), (3, .int l3_2), (0, .ref 10), (1, .ref 73)] [.int ((a2 11).getD l2_2.toNatClampNeg 0)] rfl ?_
            by_cases w13 : ((a2 11).getD l2_2.toNatClampNeg 0).toInt = 0
            ·
              refine ft_swx mi_k21 (pc := 48) (v := 0) (t := 108) (kj_eq w13 (by decide) : ((a2 11).getD l2_2.toNatClampNeg 0) = 0) (by decide +kernel) ?_
              refine fo_goS mi_k21 fz21_108_2_111 [.int ((a2 12).getD l2_2.toNatClampNeg 0), .ref 10] rfl ?_
              refine ko_callN mi_k21.1 (pc := 111) (ls := [(2, .int (l2_2 + 1)), (5, .int ((a2 12).getD l2_2.toNatClampNeg 0)), (4, .int ((a2 11).getD l2_2.toNatClampNeg 0)), (3, .int l3_2), (0, .ref 10), (1, .ref 73)]) (st := [.int ((a2 12).getD l2_2.toNatClampNeg 0), .ref 10]) (h := ks i2 a2 q2 r2) (i := (.invokevirtual 32, 3, 19, 0, 9, 0, 225)) (mi_k21.2 _ _ (by rfl)) (ft_invS mi_pq19 (by rfl)) (cy := mi_c19) mi_pq19 rfl (ke19_10 hL2.I hL2.R ((a2 12).getD l2_2.toNatClampNeg 0)) (by decide) ?_
              intro ig14 ag14 qg14 rg14 kg14 hg14
              have hGg14 := kG_call hL2 kg14 (by decide +kernel)
              obtain ⟨hg14, og14⟩ := hg14
              have s16 : (l3_2 + 1).toInt = l3_2.toInt + (1 : Int32).toInt := kd_add (ow32 p2_0 kow1) (ow38 c5 kow121 kow1)
              first | refine fo_goL mi_k21 fz21_6_3_9 [(3, .int (l3_2 + 1)), (2, .int (l2_2 + 1)), (5, .int ((a2 12).getD l2_2.toNatClampNeg 0)), (4, .int ((a2 11).getD l2_2.toNatClampNeg 0)), (0, .ref 10), (1, .ref 73)] [] (by rfl) ?_ | refine fo_goL mi_k21 fz21_114_3_9 [(3, .int (l3_2 + 1)), (2, .int (l2_2 + 1)), (5, .int ((a2 12).getD l2_2.toNatClampNeg 0)), (4, .int ((a2 11).getD l2_2.toNatClampNeg 0)), (0, .ref 10), (1, .ref 73)] [] (by rfl) ?_ | refine fo_goL mi_k21 fz21_141_3_9 [(3, .int (l3_2 + 1)), (2, .int (l2_2 + 1)), (5, .int ((a2 12).getD l2_2.toNatClampNeg 0)), (4, .int ((a2 11).getD l2_2.toNatClampNeg 0)), (0, .ref 10), (1, .ref 73)] [] (by rfl) ?_ | refine fo_goL mi_k21 fz21_153_3_9 [(3, .int (l3_2 + 1)), (2, .int (l2_2 + 1)), (5, .int ((a2 12).getD l2_2.toNatClampNeg 0)), (4, .int ((a2 11).getD l2_2.toNatClampNeg 0)), (0, .ref 10), (1, .ref 73)] [] (by rfl) ?_ | refine fo_goL mi_k21 fz21_159_3_9 [(3, .int (l3_2 + 1)), (2, .int (l2_2 + 1)), (5, .int ((a2 12).getD l2_2.toNatClampNeg 0)), (4, .int ((a2 11).getD l2_2.toNatClampNeg 0)), (0, .ref 10), (1, .ref 73)] [] (by rfl) ?_ | refine fo_goL mi_k21 fz21_178_3_9 [(3, .int (l3_2 + 1)), (2, .int (l2_2 + 1)), (5, .int ((a2 12).getD l2_2.toNatClampNeg 0)), (4, .int ((a2 11).getD l2_2.toNatClampNeg 0)), (0, .ref 10), (1, .ref 73)] [] (by rfl) ?_ | refine fo_goL mi_k21 fz21_190_3_9 [(3, .int (l3_2 + 1)), (2, .int (l2_2 + 1)), (5, .int ((a2 12).getD l2_2.toNatClampNeg 0)), (4, .int ((a2 11).getD l2_2.toNatClampNeg 0)), (0, .ref 10), (1, .ref 73)] [] (by rfl) ?_ | refine ft_goL mi_k21 3 9 [(3, .int (l3_2 + 1)), (2, .int (l2_2 + 1)), (5, .int ((a2 12).getD l2_2.toNatClampNeg 0)), (4, .int ((a2 11).getD l2_2.toNatClampNeg 0)), (0, .ref 10), (1, .ref 73)] [] (by rfl) ?_ | refine ko_steps mi_in21 3 _ (9, [(3, .int (l3_2 + 1)), (2, .int (l2_2 + 1)), (5, .int ((a2 12).getD l2_2.toNatClampNeg 0)), (4, .int ((a2 11).getD l2_2.toNatClampNeg 0)), (0, .ref 10), (1, .ref 73)], [], (0, 0), ks ig14 ag14 qg14 rg14) (by rfl) ?_
              refine ko_perm [(3, .int (l3_2 + 1)), (2, .int (l2_2 + 1)), (0, .ref 10), (1, .ref 73)] (List.forall_mem_cons.mpr ⟨(List.Mem.head _), (List.forall_mem_cons.mpr ⟨(List.Mem.tail _ (List.Mem.head _)), (List.forall_mem_cons.mpr ⟨(List.Mem.tail _ (List.Mem.tail _ (List.Mem.tail _ (List.Mem.tail _ (List.Mem.head _))))), (List.forall_mem_cons.mpr ⟨(List.Mem.tail _ (List.Mem.tail _ (List.Mem.tail _ (List.Mem.tail _ (List.Mem.tail _ (List.Mem.head _)))))), (fun _ h => absurd h List.not_mem_nil)⟩)⟩)⟩)⟩) ?_
              exact ih2 _ _ _ _ _ _ hGg14 (ow34 p2_0 s16 kow1) (lRun_num O2_0 (kj_left (ow31 c5 kow121) (ow40 s16 kow1)) ⟨(ow25 c8 kow0), (ow39 c11 efi2_643)⟩ (kL_cast (hL2.fa 11 rfl) (ow41 w13)) (congrArg (fun z : List Int32 => z.getD l2_2.toNatClampNeg 0) (hL2.fa 12 rfl)) og14) (kj_meas (ow42 s16 kow1) (ow43 c5 kow121) hm2)
            by_cases w17 : ((a2 11).getD l2_2.toNatClampNeg 0).toInt = 1
            ·
              refine ft_swx mi_k21 (pc := 48) (v := 1) (t := 117) (kj_eq w17 (by decide) : ((a2 11).getD l2_2.toNatClampNeg 0) = 1) (by decide +kernel) ?_
              refine fo_goS mi_k21 fz21_117_2_120 [.int ((a2 12).getD l2_2.toNatClampNeg 0), .ref 10] rfl ?_
              refine ft_ifS mi_k21 (decide (((a2 12).getD l2_2.toNatClampNeg 0) < 0)) 137 123 [.ref 10] (by rfl) (fun c => ?_) (fun c => ?_)
              ·
                have c18 : ((a2 12).getD l2_2.toNatClampNeg 0).toInt < (0 : Int32).toInt := kd_lt c; clear c
                first | refine fo_goS mi_k21 fz21_134_1_138 [.int 0, .ref 10] (by rfl) ?_ | refine fo_goS mi_k21 fz21_137_1_138 [.int 0, .ref 10] (by rfl) ?_
                refine ko_callN mi_k21.1 (pc := 138) (ls := [(2, .int (l2_2 + 1)), (5, .int ((a2 12).getD l2_2.toNatClampNeg 0)), (4, .int ((a2 11).getD l2_2.toNatClampNeg 0)), (3, .int l3_2), (0, .ref 10), (1, .ref 73)]) (st := [.int 0, .ref 10]) (h := ks i2 a2 q2 r2) (i := (.invokevirtual 32, 3, 19, 0, 9, 0, 225)) (mi_k21.2 _ _ (by rfl)) (ft_invS mi_pq19 (by rfl)) (cy := mi_c19) mi_pq19 rfl (ke19_10 hL2.I hL2.R 0) (by decide) ?_
                intro ig19 ag19 qg19 rg19 kg19 hg19
                have hGg19 := kG_call hL2 kg19 (by decide +kernel)
                obtain ⟨hg19, og19⟩ := hg19
                have fi2_645 : ((0 : Int) ≤ (i2 645).toInt) ∧ ((i2 645).toInt ≤ 121) := hL2.I.1 645
                have fig19_645 : ((0 : Int) ≤ (ig19 645).toInt) ∧ ((ig19 645).toInt ≤ 121) := hGg19.I.1 645
                have z20 : (((i2 645).toInt ≤ 120) ∧ ((ig19 645).toInt = ((i2 645).toInt + 1))) ∨ (((121 : Int) ≤ (i2 645).toInt) ∧ ((ig19 645).toInt = (i2 645).toInt)) := hg19
                have s21 : (l3_2 + 1).toInt = l3_2.toInt + (1 : Int32).toInt := kd_add (ow32 p2_0 kow1) (ow38 c5 kow121 kow1)
                first | refine fo_goL mi_k21 fz21_6_3_9 [(3, .int (l3_2 + 1)), (2, .int (l2_2 + 1)), (5, .int ((a2 12).getD l2_2.toNatClampNeg 0)), (4, .int ((a2 11).getD l2_2.toNatClampNeg 0)), (0, .ref 10), (1, .ref 73)] [] (by rfl) ?_ | refine fo_goL mi_k21 fz21_114_3_9 [(3, .int (l3_2 + 1)), (2, .int (l2_2 + 1)), (5, .int ((a2 12).getD l2_2.toNatClampNeg 0)), (4, .int ((a2 11).getD l2_2.toNatClampNeg 0)), (0, .ref 10), (1, .ref 73)] [] (by rfl) ?_ | refine fo_goL mi_k21 fz21_141_3_9 [(3, .int (l3_2 + 1)), (2, .int (l2_2 + 1)), (5, .int ((a2 12).getD l2_2.toNatClampNeg 0)), (4, .int ((a2 11).getD l2_2.toNatClampNeg 0)), (0, .ref 10), (1, .ref 73)] [] (by rfl) ?_ | refine fo_goL mi_k21 fz21_153_3_9 [(3, .int (l3_2 + 1)), (2, .int (l2_2 + 1)), (5, .int ((a2 12).getD l2_2.toNatClampNeg 0)), (4, .int ((a2 11).getD l2_2.toNatClampNeg 0)), (0, .ref 10), (1, .ref 73)] [] (by rfl) ?_ | refine fo_goL mi_k21 fz21_159_3_9 [(3, .int (l3_2 + 1)), (2, .int (l2_2 + 1)), (5, .int ((a2 12).getD l2_2.toNatClampNeg 0)), (4, .int ((a2 11).getD l2_2.toNatClampNeg 0)), (0, .ref 10), (1, .ref 73)] [] (by rfl) ?_ | refine fo_goL mi_k21 fz21_178_3_9 [(3, .int (l3_2 + 1)), (2, .int (l2_2 + 1)), (5, .int ((a2 12).getD l2_2.toNatClampNeg 0)), (4, .int ((a2 11).getD l2_2.toNatClampNeg 0)), (0, .ref 10), (1, .ref 73)] [] (by rfl) ?_ | refine fo_goL mi_k21 fz21_190_3_9 [(3, .int (l3_2 + 1)), (2, .int (l2_2 + 1)), (5, .int ((a2 12).getD l2_2.toNatClampNeg 0)), (4, .int ((a2 11).getD l2_2.toNatClampNeg 0)), (0, .ref 10), (1, .ref 73)] [] (by rfl) ?_ | refine ft_goL mi_k21 3 9 [(3, .int (l3_2 + 1)), (2, .int (l2_2 + 1)), (5, .int ((a2 12).getD l2_2.toNatClampNeg 0)), (4, .int ((a2 11).getD l2_2.toNatClampNeg 0)), (0, .ref 10), (1, .ref 73)] [] (by rfl) ?_ | refine ko_steps mi_in21 3 _ (9, [(3, .int (l3_2 + 1)), (2, .int (l2_2 + 1)), (5, .int ((a2 12).getD l2_2.toNatClampNeg 0)), (4, .int ((a2 11).getD l2_2.toNatClampNeg 0)), (0, .ref 10), (1, .ref 73)], [], (0, 0), ks ig19 ag19 qg19 rg19) (by rfl) ?_
                refine ko_perm [(3, .int (l3_2 + 1)), (2, .int (l2_2 + 1)), (0, .ref 10), (1, .ref 73)] (List.forall_mem_cons.mpr ⟨(List.Mem.head _), (List.forall_mem_cons.mpr ⟨(List.Mem.tail _ (List.Mem.head _)), (List.forall_mem_cons.mpr ⟨(List.Mem.tail _ (List.Mem.tail _ (List.Mem.tail _ (List.Mem.tail _ (List.Mem.head _))))), (List.forall_mem_cons.mpr ⟨(List.Mem.tail _ (List.Mem.tail _ (List.Mem.tail _ (List.Mem.tail _ (List.Mem.tail _ (List.Mem.head _)))))), (fun _ h => absurd h List.not_mem_nil)⟩)⟩)⟩)⟩) ?_
                exact ih2 _ _ _ _ _ _ hGg19 (ow34 p2_0 s21 kow1) (lRun_name O2_0 (kj_left (ow31 c5 kow121) (ow40 s21 kow1)) ⟨(ow25 c8 kow0), (ow39 c11 efi2_643)⟩ (kL_cast (hL2.fa 11 rfl) (ow44 w17)) (by have k0_ : (0 : Int32).toInt = 0 := (by decide); have k6_ : (6 : Int32).toInt = 6 := (by decide); rw [← ((hL2.fa 12 rfl) : a2 12 = a 12), ← ((hL2.fa 73 rfl) : a2 73 = a 73)]; split <;> first | rfl | (exfalso; omega)) og19) (kj_meas (ow42 s21 kow1) (ow43 c5 kow121) hm2)
              ·
                have c22 : (0 : Int32).toInt ≤ ((a2 12).getD l2_2.toNatClampNeg 0).toInt := kd_ltF c; clear c
                refine fo_goS mi_k21 fz21_123_2_126 [.ref 73, .int ((a2 12).getD l2_2.toNatClampNeg 0), .ref 10] rfl ?_
                refine ko_alen mi_k21.1 (l := a2 73) (ax := (0, 0, 0, 0, 0)) (x := 6) (mi_k21.2 _ _ (by rfl)) (by rfl) (by rfl) (by rw [(hL2.I.2.1 73 : (a2 73).length = _)]; rfl) ?_
                refine ft_ifS mi_k21 (decide (6 ≤ ((a2 12).getD l2_2.toNatClampNeg 0))) 137 130 [.ref 10] (by rfl) (fun c => ?_) (fun c => ?_)
                ·
                  have c23 : (6 : Int32).toInt ≤ ((a2 12).getD l2_2.toNatClampNeg 0).toInt := kd_le c; clear c
                  first | refine fo_goS mi_k21 fz21_134_1_138 [.int 0, .ref 10] (by rfl) ?_ | refine fo_goS mi_k21 fz21_137_1_138 [.int 0, .ref 10] (by rfl) ?_
                  refine ko_callN mi_k21.1 (pc := 138) (ls := [(2, .int (l2_2 + 1)), (5, .int ((a2 12).getD l2_2.toNatClampNeg 0)), (4, .int ((a2 11).getD l2_2.toNatClampNeg 0)), (3, .int l3_2), (0, .ref 10), (1, .ref 73)]) (st := [.int 0, .ref 10]) (h := ks i2 a2 q2 r2) (i := (.invokevirtual 32, 3, 19, 0, 9, 0, 225)) (mi_k21.2 _ _ (by rfl)) (ft_invS mi_pq19 (by rfl)) (cy := mi_c19) mi_pq19 rfl (ke19_10 hL2.I hL2.R 0) (by decide) ?_
                  intro ig24 ag24 qg24 rg24 kg24 hg24
                  have hGg24 := kG_call hL2 kg24 (by decide +kernel)
                  obtain ⟨hg24, og24⟩ := hg24
                  have fi2_645 : ((0 : Int) ≤ (i2 645).toInt) ∧ ((i2 645).toInt ≤ 121) := hL2.I.1 645
                  have fig24_645 : ((0 : Int) ≤ (ig24 645).toInt) ∧ ((ig24 645).toInt ≤ 121) := hGg24.I.1 645
                  have z25 : (((i2 645).toInt ≤ 120) ∧ ((ig24 645).toInt = ((i2 645).toInt + 1))) ∨ (((121 : Int) ≤ (i2 645).toInt) ∧ ((ig24 645).toInt = (i2 645).toInt)) := hg24
                  have s26 : (l3_2 + 1).toInt = l3_2.toInt + (1 : Int32).toInt := kd_add (ow32 p2_0 kow1) (ow38 c5 kow121 kow1)
                  first | refine fo_goL mi_k21 fz21_6_3_9 [(3, .int (l3_2 + 1)), (2, .int (l2_2 + 1)), (5, .int ((a2 12).getD l2_2.toNatClampNeg 0)), (4, .int ((a2 11).getD l2_2.toNatClampNeg 0)), (0, .ref 10), (1, .ref 73)] [] (by rfl) ?_ | refine fo_goL mi_k21 fz21_114_3_9 [(3, .int (l3_2 + 1)), (2, .int (l2_2 + 1)), (5, .int ((a2 12).getD l2_2.toNatClampNeg 0)), (4, .int ((a2 11).getD l2_2.toNatClampNeg 0)), (0, .ref 10), (1, .ref 73)] [] (by rfl) ?_ | refine fo_goL mi_k21 fz21_141_3_9 [(3, .int (l3_2 + 1)), (2, .int (l2_2 + 1)), (5, .int ((a2 12).getD l2_2.toNatClampNeg 0)), (4, .int ((a2 11).getD l2_2.toNatClampNeg 0)), (0, .ref 10), (1, .ref 73)] [] (by rfl) ?_ | refine fo_goL mi_k21 fz21_153_3_9 [(3, .int (l3_2 + 1)), (2, .int (l2_2 + 1)), (5, .int ((a2 12).getD l2_2.toNatClampNeg 0)), (4, .int ((a2 11).getD l2_2.toNatClampNeg 0)), (0, .ref 10), (1, .ref 73)] [] (by rfl) ?_ | refine fo_goL mi_k21 fz21_159_3_9 [(3, .int (l3_2 + 1)), (2, .int (l2_2 + 1)), (5, .int ((a2 12).getD l2_2.toNatClampNeg 0)), (4, .int ((a2 11).getD l2_2.toNatClampNeg 0)), (0, .ref 10), (1, .ref 73)] [] (by rfl) ?_ | refine fo_goL mi_k21 fz21_178_3_9 [(3, .int (l3_2 + 1)), (2, .int (l2_2 + 1)), (5, .int ((a2 12).getD l2_2.toNatClampNeg 0)), (4, .int ((a2 11).getD l2_2.toNatClampNeg 0)), (0, .ref 10), (1, .ref 73)] [] (by rfl) ?_ | refine fo_goL mi_k21 fz21_190_3_9 [(3, .int (l3_2 + 1)), (2, .int (l2_2 + 1)), (5, .int ((a2 12).getD l2_2.toNatClampNeg 0)), (4, .int ((a2 11).getD l2_2.toNatClampNeg 0)), (0, .ref 10), (1, .ref 73)] [] (by rfl) ?_ | refine ft_goL mi_k21 3 9 [(3, .int (l3_2 + 1)), (2, .int (l2_2 + 1)), (5, .int ((a2 12).getD l2_2.toNatClampNeg 0)), (4, .int ((a2 11).getD l2_2.toNatClampNeg 0)), (0, .ref 10), (1, .ref 73)] [] (by rfl) ?_ | refine ko_steps mi_in21 3 _ (9, [(3, .int (l3_2 + 1)), (2, .int (l2_2 + 1)), (5, .int ((a2 12).getD l2_2.toNatClampNeg 0)), (4, .int ((a2 11).getD l2_2.toNatClampNeg 0)), (0, .ref 10), (1, .ref 73)], [], (0, 0), ks ig24 ag24 qg24 rg24) (by rfl) ?_
                  refine ko_perm [(3, .int (l3_2 + 1)), (2, .int (l2_2 + 1)), (0, .ref 10), (1, .ref 73)] (List.forall_mem_cons.mpr ⟨(List.Mem.head _), (List.forall_mem_cons.mpr ⟨(List.Mem.tail _ (List.Mem.head _)), (List.forall_mem_cons.mpr ⟨(List.Mem.tail _ (List.Mem.tail _ (List.Mem.tail _ (List.Mem.tail _ (List.Mem.head _))))), (List.forall_mem_cons.mpr ⟨(List.Mem.tail _ (List.Mem.tail _ (List.Mem.tail _ (List.Mem.tail _ (List.Mem.tail _ (List.Mem.head _)))))), (fun _ h => absurd h List.not_mem_nil)⟩)⟩)⟩)⟩) ?_
                  exact ih2 _ _ _ _ _ _ hGg24 (ow34 p2_0 s26 kow1) (lRun_name O2_0 (kj_left (ow31 c5 kow121) (ow40 s26 kow1)) ⟨(ow25 c8 kow0), (ow39 c11 efi2_643)⟩ (kL_cast (hL2.fa 11 rfl) (ow44 w17)) (by have k0_ : (0 : Int32).toInt = 0 := (by decide); have k6_ : (6 : Int32).toInt = 6 := (by decide); rw [← ((hL2.fa 12 rfl) : a2 12 = a 12), ← ((hL2.fa 73 rfl) : a2 73 = a 73)]; split <;> first | rfl | (exfalso; omega)) og24) (kj_meas (ow42 s26 kow1) (ow43 c5 kow121) hm2)
                ·
                  have c27 : ((a2 12).getD l2_2.toNatClampNeg 0).toInt < (6 : Int32).toInt := kd_leF c; clear c
                  refine fo_goS mi_k21 fz21_130_2_133 [.int ((a2 12).getD l2_2.toNatClampNeg 0), .ref 73, .ref 10] rfl ?_
                  refine ko_iald3 mi_k21.1 (n := 6) (c := 6) (ax := (0, 0, 0, 0, 0)) (mi_k21.2 _ _ (by rfl)) (by rfl) (ksG73 _ _ _ _) (hL2.I.2.1 73) rfl (ow25 c22 kow0) (ow45 c27 kow6) ?_
                  first | refine fo_goS mi_k21 fz21_134_1_138 [.int ((a2 73).getD ((a2 12).getD l2_2.toNatClampNeg 0).toNatClampNeg 0), .ref 10] (by rfl) ?_ | refine fo_goS mi_k21 fz21_137_1_138 [.int ((a2 73).getD ((a2 12).getD l2_2.toNatClampNeg 0).toNatClampNeg 0), .ref 10] (by rfl) ?_
                  refine ko_callN mi_k21.1 (pc := 138) (ls := [(2, .int (l2_2 + 1)), (5, .int ((a2 12).getD l2_2.toNatClampNeg 0)), (4, .int ((a2 11).getD l2_2.toNatClampNeg 0)), (3, .int l3_2), (0, .ref 10), (1, .ref 73)]) (st := [.int ((a2 73).getD ((a2 12).getD l2_2.toNatClampNeg 0).toNatClampNeg 0), .ref 10]) (h := ks i2 a2 q2 r2) (i := (.invokevirtual 32, 3, 19, 0, 9, 0, 225)) (mi_k21.2 _ _ (by rfl)) (ft_invS mi_pq19 (by rfl)) (cy := mi_c19) mi_pq19 rfl (ke19_10 hL2.I hL2.R ((a2 73).getD ((a2 12).getD l2_2.toNatClampNeg 0).toNatClampNeg 0)) (by decide) ?_
                  intro ig28 ag28 qg28 rg28 kg28 hg28
                  have hGg28 := kG_call hL2 kg28 (by decide +kernel)
                  obtain ⟨hg28, og28⟩ := hg28
                  have fi2_645 : ((0 : Int) ≤ (i2 645).toInt) ∧ ((i2 645).toInt ≤ 121) := hL2.I.1 645
                  have fig28_645 : ((0 : Int) ≤ (ig28 645).toInt) ∧ ((ig28 645).toInt ≤ 121) := hGg28.I.1 645
                  have z29 : (((i2 645).toInt ≤ 120) ∧ ((ig28 645).toInt = ((i2 645).toInt + 1))) ∨ (((121 : Int) ≤ (i2 645).toInt) ∧ ((ig28 645).toInt = (i2 645).toInt)) := hg28
                  have s30 : (l3_2 + 1).toInt = l3_2.toInt + (1 : Int32).toInt := kd_add (ow32 p2_0 kow1) (ow38 c5 kow121 kow1)
                  first | refine fo_goL mi_k21 fz21_6_3_9 [(3, .int (l3_2 + 1)), (2, .int (l2_2 + 1)), (5, .int ((a2 12).getD l2_2.toNatClampNeg 0)), (4, .int ((a2 11).getD l2_2.toNatClampNeg 0)), (0, .ref 10), (1, .ref 73)] [] (by rfl) ?_ | refine fo_goL mi_k21 fz21_114_3_9 [(3, .int (l3_2 + 1)), (2, .int (l2_2 + 1)), (5, .int ((a2 12).getD l2_2.toNatClampNeg 0)), (4, .int ((a2 11).getD l2_2.toNatClampNeg 0)), (0, .ref 10), (1, .ref 73)] [] (by rfl) ?_ | refine fo_goL mi_k21 fz21_141_3_9 [(3, .int (l3_2 + 1)), (2, .int (l2_2 + 1)), (5, .int ((a2 12).getD l2_2.toNatClampNeg 0)), (4, .int ((a2 11).getD l2_2.toNatClampNeg 0)), (0, .ref 10), (1, .ref 73)] [] (by rfl) ?_ | refine fo_goL mi_k21 fz21_153_3_9 [(3, .int (l3_2 + 1)), (2, .int (l2_2 + 1)), (5, .int ((a2 12).getD l2_2.toNatClampNeg 0)), (4, .int ((a2 11).getD l2_2.toNatClampNeg 0)), (0, .ref 10), (1, .ref 73)] [] (by rfl) ?_ | refine fo_goL mi_k21 fz21_159_3_9 [(3, .int (l3_2 + 1)), (2, .int (l2_2 + 1)), (5, .int ((a2 12).getD l2_2.toNatClampNeg 0)), (4, .int ((a2 11).getD l2_2.toNatClampNeg 0)), (0, .ref 10), (1, .ref 73)] [] (by rfl) ?_ | refine fo_goL mi_k21 fz21_178_3_9 [(3, .int (l3_2 + 1)), (2, .int (l2_2 + 1)), (5, .int ((a2 12).getD l2_2.toNatClampNeg 0)), (4, .int ((a2 11).getD l2_2.toNatClampNeg 0)), (0, .ref 10), (1, .ref 73)] [] (by rfl) ?_ | refine fo_goL mi_k21 fz21_190_3_9 [(3, .int (l3_2 + 1)), (2, .int (l2_2 + 1)), (5, .int ((a2 12).getD l2_2.toNatClampNeg 0)), (4, .int ((a2 11).getD l2_2.toNatClampNeg 0)), (0, .ref 10), (1, .ref 73)] [] (by rfl) ?_ | refine ft_goL mi_k21 3 9 [(3, .int (l3_2 + 1)), (2, .int (l2_2 + 1)), (5, .int ((a2 12).getD l2_2.toNatClampNeg 0)), (4, .int ((a2 11).getD l2_2.toNatClampNeg 0)), (0, .ref 10), (1, .ref 73)] [] (by rfl) ?_ | refine ko_steps mi_in21 3 _ (9, [(3, .int (l3_2 + 1)), (2, .int (l2_2 + 1)), (5, .int ((a2 12).getD l2_2.toNatClampNeg 0)), (4, .int ((a2 11).getD l2_2.toNatClampNeg 0)), (0, .ref 10), (1, .ref 73)], [], (0, 0), ks ig28 ag28 qg28 rg28) (by rfl) ?_
                  refine ko_perm [(3, .int (l3_2 + 1)), (2, .int (l2_2 + 1)), (0, .ref 10), (1, .ref 73)] (List.forall_mem_cons.mpr ⟨(List.Mem.head _), (List.forall_mem_cons.mpr ⟨(List.Mem.tail _ (List.Mem.head _)), (List.forall_mem_cons.mpr ⟨(List.Mem.tail _ (List.Mem.tail _ (List.Mem.tail _ (List.Mem.tail _ (List.Mem.head _))))), (List.forall_mem_cons.mpr ⟨(List.Mem.tail _ (List.Mem.tail _ (List.Mem.tail _ (List.Mem.tail _ (List.Mem.tail _ (List.Mem.head _)))))), (fun _ h => absurd h List.not_mem_nil)⟩)⟩)⟩)⟩) ?_
                  exact ih2 _ _ _ _ _ _ hGg28 (ow34 p2_0 s30 kow1) (lRun_name O2_0 (kj_left (ow31 c5 kow121) (ow40 s30 kow1)) ⟨(ow25 c8 kow0), (ow39 c11 efi2_643)⟩ (kL_cast (hL2.fa 11 rfl) (ow44 w17)) (by have k0_ : (0 : Int32).toInt = 0 := (by decide); have k6_ : (6 : Int32).toInt = 6 := (by decide); rw [← ((hL2.fa 12 rfl) : a2 12 = a 12), ← ((hL2.fa 73 rfl) : a2 73 = a 73)]; split <;> first | rfl | (exfalso; omega)) og28) (kj_meas (ow42 s30 kow1) (ow43 c5 kow121) hm2)
            by_cases w31 : ((a2 11).getD l2_2.toNatClampNeg 0).toInt = 2
            ·
              refine ft_swx mi_k21 (pc := 48) (v := 2) (t := 144) (kj_eq w31 (by decide) : ((a2 11).getD l2_2.toNatClampNeg 0) = 2) (by decide +kernel) ?_
              have hG32 := kG_call hJ1 hL2 (by decide +kernel)
              refine fo_goS mi_k21 fz21_144_1_145 [.ref 10] rfl ?_
              refine ko_callI mi_k21.1 (pc := 145) (ls := [(2, .int (l2_2 + 1)), (5, .int ((a2 12).getD l2_2.toNatClampNeg 0)), (4, .int ((a2 11).getD l2_2.toNatClampNeg 0)), (3, .int l3_2), (0, .ref 10), (1, .ref 73)]) (st := [.ref 10]) (h := ks i2 a2 q2 r2) (i := (.invokevirtual 36, 3, 20, 0, 9, 0, 226)) (mi_k21.2 _ _ (by rfl)) (ft_invS mi_pq20 (by rfl)) (cy := mi_c20) mi_pq20 rfl (ke20_10 hG32.I hG32.R ) (by decide) ?_
              intro vg33 ig33 ag33 qg33 rg33 kg33 hg33
              have hGg33 := kG_call hG32 kg33 (by decide +kernel)
              obtain ⟨hg33, og33⟩ := hg33
              exact ft_ret mi_k21 (by rfl) (hP vg33 _ _ _ _ hGg33 ⟨trivial, (show vg33 = lRun (a 11) (a 12) (a 73) (i 643) 121 0 (a 13, 0) from (lRun_ans (n := (120 - l3_2.toInt).toNat) O2_0 (kj_left2 (ow31 c5 kow121)) ⟨(ow25 c8 kow0), (ow39 c11 efi2_643)⟩ (kL_cast (hL2.fa 11 rfl) (ow55 w31)) og33))⟩)
            by_cases w35 : ((a2 11).getD l2_2.toNatClampNeg 0).toInt = 3
            ·
              refine ft_swx mi_k21 (pc := 48) (v := 3) (t := 149) (kj_eq w35 (by decide) : ((a2 11).getD l2_2.toNatClampNeg 0) = 3) (by decide +kernel) ?_
              refine fo_goS mi_k21 fz21_149_1_150 [.ref 10] rfl ?_
              refine ko_callI mi_k21.1 (pc := 150) (ls := [(2, .int (l2_2 + 1)), (5, .int ((a2 12).getD l2_2.toNatClampNeg 0)), (4, .int ((a2 11).getD l2_2.toNatClampNeg 0)), (3, .int l3_2), (0, .ref 10), (1, .ref 73)]) (st := [.ref 10]) (h := ks i2 a2 q2 r2) (i := (.invokevirtual 36, 3, 20, 0, 9, 0, 226)) (mi_k21.2 _ _ (by rfl)) (ft_invS mi_pq20 (by rfl)) (cy := mi_c20) mi_pq20 rfl (ke20_10 hL2.I hL2.R ) (by decide) ?_
              intro vg36 ig36 ag36 qg36 rg36 kg36 hg36
              have hGg36 := kG_call hL2 kg36 (by decide +kernel)
              obtain ⟨hg36, og36⟩ := hg36
              have fi2_645 : ((0 : Int) ≤ (i2 645).toInt) ∧ ((i2 645).toInt ≤ 121) := hL2.I.1 645
              have fig36_645 : ((0 : Int) ≤ (ig36 645).toInt) ∧ ((ig36 645).toInt ≤ 121) := hGg36.I.1 645
              have z37 : (((1 : Int) ≤ (i2 645).toInt) ∧ ((ig36 645).toInt = ((i2 645).toInt - 1))) ∨ (((i2 645).toInt ≤ 0) ∧ ((ig36 645).toInt = (i2 645).toInt)) := hg36
              refine ft_ifS mi_k21 (vg36 != 0) 214 156 [] (by rfl) (fun c => ?_) (fun c => ?_)
              ·
                have c38 : vg36.toInt ≠ (0 : Int32).toInt := kd_ne c; clear c
                have s39 : (l3_2 + 1).toInt = l3_2.toInt + (1 : Int32).toInt := kd_add (ow32 p2_0 kow1) (ow38 c5 kow121 kow1)
                first | refine fo_goL mi_k21 fz21_7_2_9 [(3, .int (l3_2 + 1)), (2, .int (l2_2 + 1)), (5, .int ((a2 12).getD l2_2.toNatClampNeg 0)), (4, .int ((a2 11).getD l2_2.toNatClampNeg 0)), (0, .ref 10), (1, .ref 73)] [] (by rfl) ?_ | refine fo_goL mi_k21 fz21_214_2_9 [(3, .int (l3_2 + 1)), (2, .int (l2_2 + 1)), (5, .int ((a2 12).getD l2_2.toNatClampNeg 0)), (4, .int ((a2 11).getD l2_2.toNatClampNeg 0)), (0, .ref 10), (1, .ref 73)] [] (by rfl) ?_
                refine ko_perm [(3, .int (l3_2 + 1)), (2, .int (l2_2 + 1)), (0, .ref 10), (1, .ref 73)] (List.forall_mem_cons.mpr ⟨(List.Mem.head _), (List.forall_mem_cons.mpr ⟨(List.Mem.tail _ (List.Mem.head _)), (List.forall_mem_cons.mpr ⟨(List.Mem.tail _ (List.Mem.tail _ (List.Mem.tail _ (List.Mem.tail _ (List.Mem.head _))))), (List.forall_mem_cons.mpr ⟨(List.Mem.tail _ (List.Mem.tail _ (List.Mem.tail _ (List.Mem.tail _ (List.Mem.tail _ (List.Mem.head _)))))), (fun _ h => absurd h List.not_mem_nil)⟩)⟩)⟩)⟩) ?_
                exact ih2 _ _ _ _ _ _ hGg36 (ow34 p2_0 s39 kow1) (lRun_skip O2_0 (kj_left (ow31 c5 kow121) (ow40 s39 kow1)) ⟨(ow25 c8 kow0), (ow39 c11 efi2_643)⟩ (kL_cast (hL2.fa 11 rfl) (ow56 w35)) og36 (by have k0_ : (0 : Int32).toInt = 0 := (by decide); have k6_ : (6 : Int32).toInt = 6 := (by decide); rw [← ((hL2.fa 12 rfl) : a2 12 = a 12)]; split <;> first | rfl | (exfalso; omega))) (kj_meas (ow42 s39 kow1) (ow43 c5 kow121) hm2)
              ·
                have c40 : vg36.toInt = (0 : Int32).toInt := kd_neF c; clear c
                have s41 : (l3_2 + 1).toInt = l3_2.toInt + (1 : Int32).toInt := kd_add (ow32 p2_0 kow1) (ow38 c5 kow121 kow1)
                first | refine fo_go mi_k21 fz21_2_5_9 [(3, .int (l3_2 + 1)), (2, .int ((a2 12).getD l2_2.toNatClampNeg 0)), (5, .int ((a2 12).getD l2_2.toNatClampNeg 0)), (4, .int ((a2 11).getD l2_2.toNatClampNeg 0)), (0, .ref 10), (1, .ref 73)] [] ig36 ag36 qg36 rg36 (by rfl) ?_ | refine fo_goL mi_k21 fz21_156_5_9 [(3, .int (l3_2 + 1)), (2, .int ((a2 12).getD l2_2.toNatClampNeg 0)), (5, .int ((a2 12).getD l2_2.toNatClampNeg 0)), (4, .int ((a2 11).getD l2_2.toNatClampNeg 0)), (0, .ref 10), (1, .ref 73)] [] (by rfl) ?_ | refine ft_goL mi_k21 5 9 [(3, .int (l3_2 + 1)), (2, .int ((a2 12).getD l2_2.toNatClampNeg 0)), (5, .int ((a2 12).getD l2_2.toNatClampNeg 0)), (4, .int ((a2 11).getD l2_2.toNatClampNeg 0)), (0, .ref 10), (1, .ref 73)] [] (by rfl) ?_ | refine ft_go mi_k21 5 9 [(3, .int (l3_2 + 1)), (2, .int ((a2 12).getD l2_2.toNatClampNeg 0)), (5, .int ((a2 12).getD l2_2.toNatClampNeg 0)), (4, .int ((a2 11).getD l2_2.toNatClampNeg 0)), (0, .ref 10), (1, .ref 73)] [] ig36 ag36 qg36 rg36 (by rfl) ?_ | refine ko_steps mi_in21 5 _ (9, [(3, .int (l3_2 + 1)), (2, .int ((a2 12).getD l2_2.toNatClampNeg 0)), (5, .int ((a2 12).getD l2_2.toNatClampNeg 0)), (4, .int ((a2 11).getD l2_2.toNatClampNeg 0)), (0, .ref 10), (1, .ref 73)], [], (0, 0), ks ig36 ag36 qg36 rg36) (by rfl) ?_
                refine ko_perm [(3, .int (l3_2 + 1)), (2, .int ((a2 12).getD l2_2.toNatClampNeg 0)), (0, .ref 10), (1, .ref 73)] (List.forall_mem_cons.mpr ⟨(List.Mem.head _), (List.forall_mem_cons.mpr ⟨(List.Mem.tail _ (List.Mem.head _)), (List.forall_mem_cons.mpr ⟨(List.Mem.tail _ (List.Mem.tail _ (List.Mem.tail _ (List.Mem.tail _ (List.Mem.head _))))), (List.forall_mem_cons.mpr ⟨(List.Mem.tail _ (List.Mem.tail _ (List.Mem.tail _ (List.Mem.tail _ (List.Mem.tail _ (List.Mem.head _)))))), (fun _ h => absurd h List.not_mem_nil)⟩)⟩)⟩)⟩) ?_
                exact ih2 _ _ _ _ _ _ hGg36 (ow34 p2_0 s41 kow1) (lRun_skip O2_0 (kj_left (ow31 c5 kow121) (ow40 s41 kow1)) ⟨(ow25 c8 kow0), (ow39 c11 efi2_643)⟩ (kL_cast (hL2.fa 11 rfl) (ow56 w35)) og36 (by have k0_ : (0 : Int32).toInt = 0 := (by decide); have k6_ : (6 : Int32).toInt = 6 := (by decide); rw [← ((hL2.fa 12 rfl) : a2 12 = a 12)]; split <;> first | rfl | (exfalso; omega))) (kj_meas (ow42 s41 kow1) (ow43 c5 kow121) hm2)
            by_cases w42 : ((a2 11).getD l2_2.toNatClampNeg 0).toInt = 33
            ·
              refine ft_swx mi_k21 (pc := 48) (v := 33) (t := 162) (kj_eq w42 (by decide) : ((a2 11).getD l2_2.toNatClampNeg 0) = 33) (by decide +kernel) ?_
              refine fo_goS mi_k21 fz21_162_2_164 [.ref 10, .ref 10] rfl ?_
              refine ko_callI mi_k21.1 (pc := 164) (ls := [(2, .int (l2_2 + 1)), (5, .int ((a2 12).getD l2_2.toNatClampNeg 0)), (4, .int ((a2 11).getD l2_2.toNatClampNeg 0)), (3, .int l3_2), (0, .ref 10), (1, .ref 73)]) (st := [.ref 10, .ref 10]) (h := ks i2 a2 q2 r2) (i := (.invokevirtual 36, 3, 20, 0, 9, 0, 226)) (mi_k21.2 _ _ (by rfl)) (ft_invS mi_pq20 (by rfl)) (cy := mi_c20) mi_pq20 rfl (ke20_10 hL2.I hL2.R ) (by decide) ?_
              intro vg43 ig43 ag43 qg43 rg43 kg43 hg43
              have hGg43 := kG_call hL2 kg43 (by decide +kernel)
              obtain ⟨hg43, og43⟩ := hg43
              have fi2_645 : ((0 : Int) ≤ (i2 645).toInt) ∧ ((i2 645).toInt ≤ 121) := hL2.I.1 645
              have fig43_645 : ((0 : Int) ≤ (ig43 645).toInt) ∧ ((ig43 645).toInt ≤ 121) := hGg43.I.1 645
              have z44 : (((1 : Int) ≤ (i2 645).toInt) ∧ ((ig43 645).toInt = ((i2 645).toInt - 1))) ∨ (((i2 645).toInt ≤ 0) ∧ ((ig43 645).toInt = (i2 645).toInt)) := hg43
              refine ft_ifS mi_k21 (vg43 != 0) 174 170 [.ref 10] (by rfl) (fun c => ?_) (fun c => ?_)
              ·
                have c45 : vg43.toInt ≠ (0 : Int32).toInt := kd_ne c; clear c
                first | refine fo_goS mi_k21 fz21_171_1_175 [.int 0, .ref 10] (by rfl) ?_ | refine fo_goS mi_k21 fz21_174_1_175 [.int 0, .ref 10] (by rfl) ?_
                refine ko_callN mi_k21.1 (pc := 175) (ls := [(2, .int (l2_2 + 1)), (5, .int ((a2 12).getD l2_2.toNatClampNeg 0)), (4, .int ((a2 11).getD l2_2.toNatClampNeg 0)), (3, .int l3_2), (0, .ref 10), (1, .ref 73)]) (st := [.int 0, .ref 10]) (h := ks ig43 ag43 qg43 rg43) (i := (.invokevirtual 32, 3, 19, 0, 9, 0, 225)) (mi_k21.2 _ _ (by rfl)) (ft_invS mi_pq19 (by rfl)) (cy := mi_c19) mi_pq19 rfl (ke19_10 hGg43.I hGg43.R 0) (by decide) ?_
                intro ig46 ag46 qg46 rg46 kg46 hg46
                have hGg46 := kG_call hGg43 kg46 (by decide +kernel)
                obtain ⟨hg46, og46⟩ := hg46
                have fig46_645 : ((0 : Int) ≤ (ig46 645).toInt) ∧ ((ig46 645).toInt ≤ 121) := hGg46.I.1 645
                have z47 : (((ig43 645).toInt ≤ 120) ∧ ((ig46 645).toInt = ((ig43 645).toInt + 1))) ∨ (((121 : Int) ≤ (ig43 645).toInt) ∧ ((ig46 645).toInt = (ig43 645).toInt)) := hg46
                have s48 : (l3_2 + 1).toInt = l3_2.toInt + (1 : Int32).toInt := kd_add (ow32 p2_0 kow1) (ow38 c5 kow121 kow1)
                first | refine fo_goL mi_k21 fz21_6_3_9 [(3, .int (l3_2 + 1)), (2, .int (l2_2 + 1)), (5, .int ((a2 12).getD l2_2.toNatClampNeg 0)), (4, .int ((a2 11).getD l2_2.toNatClampNeg 0)), (0, .ref 10), (1, .ref 73)] [] (by rfl) ?_ | refine fo_goL mi_k21 fz21_114_3_9 [(3, .int (l3_2 + 1)), (2, .int (l2_2 + 1)), (5, .int ((a2 12).getD l2_2.toNatClampNeg 0)), (4, .int ((a2 11).getD l2_2.toNatClampNeg 0)), (0, .ref 10), (1, .ref 73)] [] (by rfl) ?_ | refine fo_goL mi_k21 fz21_141_3_9 [(3, .int (l3_2 + 1)), (2, .int (l2_2 + 1)), (5, .int ((a2 12).getD l2_2.toNatClampNeg 0)), (4, .int ((a2 11).getD l2_2.toNatClampNeg 0)), (0, .ref 10), (1, .ref 73)] [] (by rfl) ?_ | refine fo_goL mi_k21 fz21_153_3_9 [(3, .int (l3_2 + 1)), (2, .int (l2_2 + 1)), (5, .int ((a2 12).getD l2_2.toNatClampNeg 0)), (4, .int ((a2 11).getD l2_2.toNatClampNeg 0)), (0, .ref 10), (1, .ref 73)] [] (by rfl) ?_ | refine fo_goL mi_k21 fz21_159_3_9 [(3, .int (l3_2 + 1)), (2, .int (l2_2 + 1)), (5, .int ((a2 12).getD l2_2.toNatClampNeg 0)), (4, .int ((a2 11).getD l2_2.toNatClampNeg 0)), (0, .ref 10), (1, .ref 73)] [] (by rfl) ?_ | refine fo_goL mi_k21 fz21_178_3_9 [(3, .int (l3_2 + 1)), (2, .int (l2_2 + 1)), (5, .int ((a2 12).getD l2_2.toNatClampNeg 0)), (4, .int ((a2 11).getD l2_2.toNatClampNeg 0)), (0, .ref 10), (1, .ref 73)] [] (by rfl) ?_ | refine fo_goL mi_k21 fz21_190_3_9 [(3, .int (l3_2 + 1)), (2, .int (l2_2 + 1)), (5, .int ((a2 12).getD l2_2.toNatClampNeg 0)), (4, .int ((a2 11).getD l2_2.toNatClampNeg 0)), (0, .ref 10), (1, .ref 73)] [] (by rfl) ?_ | refine ft_goL mi_k21 3 9 [(3, .int (l3_2 + 1)), (2, .int (l2_2 + 1)), (5, .int ((a2 12).getD l2_2.toNatClampNeg 0)), (4, .int ((a2 11).getD l2_2.toNatClampNeg 0)), (0, .ref 10), (1, .ref 73)] [] (by rfl) ?_ | refine ko_steps mi_in21 3 _ (9, [(3, .int (l3_2 + 1)), (2, .int (l2_2 + 1)), (5, .int ((a2 12).getD l2_2.toNatClampNeg 0)), (4, .int ((a2 11).getD l2_2.toNatClampNeg 0)), (0, .ref 10), (1, .ref 73)], [], (0, 0), ks ig46 ag46 qg46 rg46) (by rfl) ?_
                refine ko_perm [(3, .int (l3_2 + 1)), (2, .int (l2_2 + 1)), (0, .ref 10), (1, .ref 73)] (List.forall_mem_cons.mpr ⟨(List.Mem.head _), (List.forall_mem_cons.mpr ⟨(List.Mem.tail _ (List.Mem.head _)), (List.forall_mem_cons.mpr ⟨(List.Mem.tail _ (List.Mem.tail _ (List.Mem.tail _ (List.Mem.tail _ (List.Mem.head _))))), (List.forall_mem_cons.mpr ⟨(List.Mem.tail _ (List.Mem.tail _ (List.Mem.tail _ (List.Mem.tail _ (List.Mem.tail _ (List.Mem.head _)))))), (fun _ h => absurd h List.not_mem_nil)⟩)⟩)⟩)⟩) ?_
                exact ih2 _ _ _ _ _ _ hGg46 (ow34 p2_0 s48 kow1) (lRun_not O2_0 (kj_left (ow31 c5 kow121) (ow40 s48 kow1)) ⟨(ow25 c8 kow0), (ow39 c11 efi2_643)⟩ (kL_cast (hL2.fa 11 rfl) (ow57 w42)) og43 (by have k0_ : (0 : Int32).toInt = 0 := (by decide); have k6_ : (6 : Int32).toInt = 6 := (by decide); split <;> first | rfl | (exfalso; omega)) og46) (kj_meas (ow42 s48 kow1) (ow43 c5 kow121) hm2)
              ·
                have c49 : vg43.toInt = (0 : Int32).toInt := kd_neF c; clear c
                first | refine fo_goS mi_k21 fz21_170_2_175 [.int 1, .ref 10] (by rfl) ?_ | refine fo_goS mi_k21 fz21_167_2_175 [.int 1, .ref 10] (by rfl) ?_
                refine ko_callN mi_k21.1 (pc := 175) (ls := [(2, .int (l2_2 + 1)), (5, .int ((a2 12).getD l2_2.toNatClampNeg 0)), (4, .int ((a2 11).getD l2_2.toNatClampNeg 0)), (3, .int l3_2), (0, .ref 10), (1, .ref 73)]) (st := [.int 1, .ref 10]) (h := ks ig43 ag43 qg43 rg43) (i := (.invokevirtual 32, 3, 19, 0, 9, 0, 225)) (mi_k21.2 _ _ (by rfl)) (ft_invS mi_pq19 (by rfl)) (cy := mi_c19) mi_pq19 rfl (ke19_10 hGg43.I hGg43.R 1) (by decide) ?_
                intro ig50 ag50 qg50 rg50 kg50 hg50
                have hGg50 := kG_call hGg43 kg50 (by decide +kernel)
                obtain ⟨hg50, og50⟩ := hg50
                have fig50_645 : ((0 : Int) ≤ (ig50 645).toInt) ∧ ((ig50 645).toInt ≤ 121) := hGg50.I.1 645
                have z51 : (((ig43 645).toInt ≤ 120) ∧ ((ig50 645).toInt = ((ig43 645).toInt + 1))) ∨ (((121 : Int) ≤ (ig43 645).toInt) ∧ ((ig50 645).toInt = (ig43 645).toInt)) := hg50
                have s52 : (l3_2 + 1).toInt = l3_2.toInt + (1 : Int32).toInt := kd_add (ow32 p2_0 kow1) (ow38 c5 kow121 kow1)
                first | refine fo_goL mi_k21 fz21_6_3_9 [(3, .int (l3_2 + 1)), (2, .int (l2_2 + 1)), (5, .int ((a2 12).getD l2_2.toNatClampNeg 0)), (4, .int ((a2 11).getD l2_2.toNatClampNeg 0)), (0, .ref 10), (1, .ref 73)] [] (by rfl) ?_ | refine fo_goL mi_k21 fz21_114_3_9 [(3, .int (l3_2 + 1)), (2, .int (l2_2 + 1)), (5, .int ((a2 12).getD l2_2.toNatClampNeg 0)), (4, .int ((a2 11).getD l2_2.toNatClampNeg 0)), (0, .ref 10), (1, .ref 73)] [] (by rfl) ?_ | refine fo_goL mi_k21 fz21_141_3_9 [(3, .int (l3_2 + 1)), (2, .int (l2_2 + 1)), (5, .int ((a2 12).getD l2_2.toNatClampNeg 0)), (4, .int ((a2 11).getD l2_2.toNatClampNeg 0)), (0, .ref 10), (1, .ref 73)] [] (by rfl) ?_ | refine fo_goL mi_k21 fz21_153_3_9 [(3, .int (l3_2 + 1)), (2, .int (l2_2 + 1)), (5, .int ((a2 12).getD l2_2.toNatClampNeg 0)), (4, .int ((a2 11).getD l2_2.toNatClampNeg 0)), (0, .ref 10), (1, .ref 73)] [] (by rfl) ?_ | refine fo_goL mi_k21 fz21_159_3_9 [(3, .int (l3_2 + 1)), (2, .int (l2_2 + 1)), (5, .int ((a2 12).getD l2_2.toNatClampNeg 0)), (4, .int ((a2 11).getD l2_2.toNatClampNeg 0)), (0, .ref 10), (1, .ref 73)] [] (by rfl) ?_ | refine fo_goL mi_k21 fz21_178_3_9 [(3, .int (l3_2 + 1)), (2, .int (l2_2 + 1)), (5, .int ((a2 12).getD l2_2.toNatClampNeg 0)), (4, .int ((a2 11).getD l2_2.toNatClampNeg 0)), (0, .ref 10), (1, .ref 73)] [] (by rfl) ?_ | refine fo_goL mi_k21 fz21_190_3_9 [(3, .int (l3_2 + 1)), (2, .int (l2_2 + 1)), (5, .int ((a2 12).getD l2_2.toNatClampNeg 0)), (4, .int ((a2 11).getD l2_2.toNatClampNeg 0)), (0, .ref 10), (1, .ref 73)] [] (by rfl) ?_ | refine ft_goL mi_k21 3 9 [(3, .int (l3_2 + 1)), (2, .int (l2_2 + 1)), (5, .int ((a2 12).getD l2_2.toNatClampNeg 0)), (4, .int ((a2 11).getD l2_2.toNatClampNeg 0)), (0, .ref 10), (1, .ref 73)] [] (by rfl) ?_ | refine ko_steps mi_in21 3 _ (9, [(3, .int (l3_2 + 1)), (2, .int (l2_2 + 1)), (5, .int ((a2 12).getD l2_2.toNatClampNeg 0)), (4, .int ((a2 11).getD l2_2.toNatClampNeg 0)), (0, .ref 10), (1, .ref 73)], [], (0, 0), ks ig50 ag50 qg50 rg50) (by rfl) ?_
                refine ko_perm [(3, .int (l3_2 + 1)), (2, .int (l2_2 + 1)), (0, .ref 10), (1, .ref 73)] (List.forall_mem_cons.mpr ⟨(List.Mem.head _), (List.forall_mem_cons.mpr ⟨(List.Mem.tail _ (List.Mem.head _)), (List.forall_mem_cons.mpr ⟨(List.Mem.tail _ (List.Mem.tail _ (List.Mem.tail _ (List.Mem.tail _ (List.Mem.head _))))), (List.forall_mem_cons.mpr ⟨(List.Mem.tail _ (List.Mem.tail _ (List.Mem.tail _ (List.Mem.tail _ (List.Mem.tail _ (List.Mem.head _)))))), (fun _ h => absurd h List.not_mem_nil)⟩)⟩)⟩)⟩) ?_
                exact ih2 _ _ _ _ _ _ hGg50 (ow34 p2_0 s52 kow1) (lRun_not O2_0 (kj_left (ow31 c5 kow121) (ow40 s52 kow1)) ⟨(ow25 c8 kow0), (ow39 c11 efi2_643)⟩ (kL_cast (hL2.fa 11 rfl) (ow57 w42)) og43 (by have k0_ : (0 : Int32).toInt = 0 := (by decide); have k6_ : (6 : Int32).toInt = 6 := (by decide); split <;> first | rfl | (exfalso; omega)) og50) (kj_meas (ow42 s52 kow1) (ow43 c5 kow121) hm2)
            by_cases w53 : ((a2 11).getD l2_2.toNatClampNeg 0).toInt = 126
            ·
              refine ft_swx mi_k21 (pc := 48) (v := 126) (t := 181) (kj_eq w53 (by decide) : ((a2 11).getD l2_2.toNatClampNeg 0) = 126) (by decide +kernel) ?_
              refine fo_goS mi_k21 fz21_181_2_183 [.ref 10, .ref 10] rfl ?_
              refine ko_callI mi_k21.1 (pc := 183) (ls := [(2, .int (l2_2 + 1)), (5, .int ((a2 12).getD l2_2.toNatClampNeg 0)), (4, .int ((a2 11).getD l2_2.toNatClampNeg 0)), (3, .int l3_2), (0, .ref 10), (1, .ref 73)]) (st := [.ref 10, .ref 10]) (h := ks i2 a2 q2 r2) (i := (.invokevirtual 36, 3, 20, 0, 9, 0, 226)) (mi_k21.2 _ _ (by rfl)) (ft_invS mi_pq20 (by rfl)) (cy := mi_c20) mi_pq20 rfl (ke20_10 hL2.I hL2.R ) (by decide) ?_
              intro vg54 ig54 ag54 qg54 rg54 kg54 hg54
              have hGg54 := kG_call hL2 kg54 (by decide +kernel)
              obtain ⟨hg54, og54⟩ := hg54
              refine fo_goS mi_k21 fz21_186_1_187 [.int (-vg54), .ref 10] rfl ?_
              refine ko_callN mi_k21.1 (pc := 187) (ls := [(2, .int (l2_2 + 1)), (5, .int ((a2 12).getD l2_2.toNatClampNeg 0)), (4, .int ((a2 11).getD l2_2.toNatClampNeg 0)), (3, .int l3_2), (0, .ref 10), (1, .ref 73)]) (st := [.int (-vg54), .ref 10]) (h := ks ig54 ag54 qg54 rg54) (i := (.invokevirtual 32, 3, 19, 0, 9, 0, 225)) (mi_k21.2 _ _ (by rfl)) (ft_invS mi_pq19 (by rfl)) (cy := mi_c19) mi_pq19 rfl (ke19_10 hGg54.I hGg54.R (-vg54)) (by decide) ?_
              intro ig56 ag56 qg56 rg56 kg56 hg56
              have hGg56 := kG_call hGg54 kg56 (by decide +kernel)
              obtain ⟨hg56, og56⟩ := hg56
              have s58 : (l3_2 + 1).toInt = l3_2.toInt + (1 : Int32).toInt := kd_add (ow32 p2_0 kow1) (ow38 c5 kow121 kow1)
              first | refine fo_goL mi_k21 fz21_6_3_9 [(3, .int (l3_2 + 1)), (2, .int (l2_2 + 1)), (5, .int ((a2 12).getD l2_2.toNatClampNeg 0)), (4, .int ((a2 11).getD l2_2.toNatClampNeg 0)), (0, .ref 10), (1, .ref 73)] [] (by rfl) ?_ | refine fo_goL mi_k21 fz21_114_3_9 [(3, .int (l3_2 + 1)), (2, .int (l2_2 + 1)), (5, .int ((a2 12).getD l2_2.toNatClampNeg 0)), (4, .int ((a2 11).getD l2_2.toNatClampNeg 0)), (0, .ref 10), (1, .ref 73)] [] (by rfl) ?_ | refine fo_goL mi_k21 fz21_141_3_9 [(3, .int (l3_2 + 1)), (2, .int (l2_2 + 1)), (5, .int ((a2 12).getD l2_2.toNatClampNeg 0)), (4, .int ((a2 11).getD l2_2.toNatClampNeg 0)), (0, .ref 10), (1, .ref 73)] [] (by rfl) ?_ | refine fo_goL mi_k21 fz21_153_3_9 [(3, .int (l3_2 + 1)), (2, .int (l2_2 + 1)), (5, .int ((a2 12).getD l2_2.toNatClampNeg 0)), (4, .int ((a2 11).getD l2_2.toNatClampNeg 0)), (0, .ref 10), (1, .ref 73)] [] (by rfl) ?_ | refine fo_goL mi_k21 fz21_159_3_9 [(3, .int (l3_2 + 1)), (2, .int (l2_2 + 1)), (5, .int ((a2 12).getD l2_2.toNatClampNeg 0)), (4, .int ((a2 11).getD l2_2.toNatClampNeg 0)), (0, .ref 10), (1, .ref 73)] [] (by rfl) ?_ | refine fo_goL mi_k21 fz21_178_3_9 [(3, .int (l3_2 + 1)), (2, .int (l2_2 + 1)), (5, .int ((a2 12).getD l2_2.toNatClampNeg 0)), (4, .int ((a2 11).getD l2_2.toNatClampNeg 0)), (0, .ref 10), (1, .ref 73)] [] (by rfl) ?_ | refine fo_goL mi_k21 fz21_190_3_9 [(3, .int (l3_2 + 1)), (2, .int (l2_2 + 1)), (5, .int ((a2 12).getD l2_2.toNatClampNeg 0)), (4, .int ((a2 11).getD l2_2.toNatClampNeg 0)), (0, .ref 10), (1, .ref 73)] [] (by rfl) ?_ | refine ft_goL mi_k21 3 9 [(3, .int (l3_2 + 1)), (2, .int (l2_2 + 1)), (5, .int ((a2 12).getD l2_2.toNatClampNeg 0)), (4, .int ((a2 11).getD l2_2.toNatClampNeg 0)), (0, .ref 10), (1, .ref 73)] [] (by rfl) ?_ | refine ko_steps mi_in21 3 _ (9, [(3, .int (l3_2 + 1)), (2, .int (l2_2 + 1)), (5, .int ((a2 12).getD l2_2.toNatClampNeg 0)), (4, .int ((a2 11).getD l2_2.toNatClampNeg 0)), (0, .ref 10), (1, .ref 73)], [], (0, 0), ks ig56 ag56 qg56 rg56) (by rfl) ?_
              refine ko_perm [(3, .int (l3_2 + 1)), (2, .int (l2_2 + 1)), (0, .ref 10), (1, .ref 73)] (List.forall_mem_cons.mpr ⟨(List.Mem.head _), (List.forall_mem_cons.mpr ⟨(List.Mem.tail _ (List.Mem.head _)), (List.forall_mem_cons.mpr ⟨(List.Mem.tail _ (List.Mem.tail _ (List.Mem.tail _ (List.Mem.tail _ (List.Mem.head _))))), (List.forall_mem_cons.mpr ⟨(List.Mem.tail _ (List.Mem.tail _ (List.Mem.tail _ (List.Mem.tail _ (List.Mem.tail _ (List.Mem.head _)))))), (fun _ h => absurd h List.not_mem_nil)⟩)⟩)⟩)⟩) ?_
              exact ih2 _ _ _ _ _ _ hGg56 (ow34 p2_0 s58 kow1) (lRun_neg O2_0 (kj_left (ow31 c5 kow121) (ow40 s58 kow1)) ⟨(ow25 c8 kow0), (ow39 c11 efi2_643)⟩ (kL_cast (hL2.fa 11 rfl) (ow58 w53)) og54 rfl og56) (kj_meas (ow42 s58 kow1) (ow43 c5 kow121) hm2)
            refine ko_lsw (ls := [(2, .int (l2_2 + 1)), (5, .int ((a2 12).getD l2_2.toNatClampNeg 0)), (4, .int ((a2 11).getD l2_2.toNatClampNeg 0)), (3, .int l3_2), (0, .ref 10), (1, .ref 73)]) (r := []) (h := ks i2 a2 q2 r2) mi_in21 (v := ((a2 11).getD l2_2.toNatClampNeg 0)) (i := (.lookupswitch 145 #[(0, 60), (1, 69), (2, 96), (3, 101), (33, 114), (126, 133)], 60, 0, 0, 0, 0, 0)) (by rfl) rfl (by simp only [Op.lookupswitch.offset, if_neg (Ne.symm w13), if_neg (Ne.symm w17), if_neg (Ne.symm w31), if_neg (Ne.symm w35), if_neg (Ne.symm w42), if_neg (Ne.symm w53)] <;> rfl) 193 (by rfl) ?_
            refine fo_goS mi_k21 fz21_193_1_194 [.ref 10] rfl ?_
            refine ko_callI mi_k21.1 (pc := 194) (ls := [(2, .int (l2_2 + 1)), (5, .int ((a2 12).getD l2_2.toNatClampNeg 0)), (4, .int ((a2 11).getD l2_2.toNatClampNeg 0)), (3, .int l3_2), (0, .ref 10), (1, .ref 73)]) (st := [.ref 10]) (h := ks i2 a2 q2 r2) (i := (.invokevirtual 36, 3, 20, 0, 9, 0, 226)) (mi_k21.2 _ _ (by rfl)) (ft_invS mi_pq20 (by rfl)) (cy := mi_c20) mi_pq20 rfl (ke20_10 hL2.I hL2.R ) (by decide) ?_
            intro vg59 ig59 ag59 qg59 rg59 kg59 hg59
            have hGg59 := kG_call hL2 kg59 (by decide +kernel)
            obtain ⟨hg59, og59⟩ := hg59
            refine fo_goL mi_k21 fz21_197_4_203 [(6, .int vg59), (2, .int (l2_2 + 1)), (5, .int ((a2 12).getD l2_2.toNatClampNeg 0)), (4, .int ((a2 11).getD l2_2.toNatClampNeg 0)), (3, .int l3_2), (0, .ref 10), (1, .ref 73)] [.ref 10, .int ((a2 11).getD l2_2.toNatClampNeg 0), .ref 10] rfl ?_
            refine ko_callI mi_k21.1 (pc := 203) (ls := [(6, .int vg59), (2, .int (l2_2 + 1)), (5, .int ((a2 12).getD l2_2.toNatClampNeg 0)), (4, .int ((a2 11).getD l2_2.toNatClampNeg 0)), (3, .int l3_2), (0, .ref 10), (1, .ref 73)]) (st := [.ref 10, .int ((a2 11).getD l2_2.toNatClampNeg 0), .ref 10]) (h := ks ig59 ag59 qg59 rg59) (i := (.invokevirtual 36, 3, 20, 0, 9, 0, 226)) (mi_k21.2 _ _ (by rfl)) (ft_invS mi_pq20 (by rfl)) (cy := mi_c20) mi_pq20 rfl (ke20_10 hGg59.I hGg59.R ) (by decide) ?_
            intro vg61 ig61 ag61 qg61 rg61 kg61 hg61
            have hGg61 := kG_call hGg59 kg61 (by decide +kernel)
            obtain ⟨hg61, og61⟩ := hg61
            refine fo_goS mi_k21 fz21_206_1_208 [.int vg59, .int vg61, .int ((a2 11).getD l2_2.toNatClampNeg 0), .ref 10] rfl ?_
            refine ko_callPI mi_k21.1 (pc := 208) (ls := [(6, .int vg59), (2, .int (l2_2 + 1)), (5, .int ((a2 12).getD l2_2.toNatClampNeg 0)), (4, .int ((a2 11).getD l2_2.toNatClampNeg 0)), (3, .int l3_2), (0, .ref 10), (1, .ref 73)]) (st := [.int vg59, .int vg61, .int ((a2 11).getD l2_2.toNatClampNeg 0), .ref 10]) (h := ks ig61 ag61 qg61 rg61) (i := (.invokestatic 40, 3, 22, 0, 9, 0, 227)) (mi_k21.2 _ _ (by rfl)) (ft_invS mi_pq22 (by rfl)) (cy := mi_c22) mi_pq22 rfl (ke22 hGg61.I hGg61.R ((a2 11).getD l2_2.toNatClampNeg 0) vg61 vg59) (by decide) ?_
            intro vg63 hg63
            obtain ⟨hg63, og63⟩ := hg63
            have q64 : vg63 = cJoin ((a2 11).getD l2_2.toNatClampNeg 0) vg61 vg59 := og63
            refine ko_callN mi_k21.1 (pc := 211) (ls := [(6, .int vg59), (2, .int (l2_2 + 1)), (5, .int ((a2 12).getD l2_2.toNatClampNeg 0)), (4, .int ((a2 11).getD l2_2.toNatClampNeg 0)), (3, .int l3_2), (0, .ref 10), (1, .ref 73)]) (st := [.int vg63, .ref 10]) (h := ks ig61 ag61 qg61 rg61) (i := (.invokevirtual 32, 3, 19, 0, 9, 0, 225)) (mi_k21.2 _ _ (by rfl)) (ft_invS mi_pq19 (by rfl)) (cy := mi_c19) mi_pq19 rfl (ke19_10 hGg61.I hGg61.R vg63) (by decide) ?_
            intro ig65 ag65 qg65 rg65 kg65 hg65
            have hGg65 := kG_call hGg61 kg65 (by decide +kernel)
            obtain ⟨hg65, og65⟩ := hg65
            have s67 : (l3_2 + 1).toInt = l3_2.toInt + (1 : Int32).toInt := kd_add (ow32 p2_0 kow1) (ow38 c5 kow121 kow1)
            first | refine fo_goL mi_k21 fz21_7_2_9 [(3, .int (l3_2 + 1)), (6, .int vg59), (2, .int (l2_2 + 1)), (5, .int ((a2 12).getD l2_2.toNatClampNeg 0)), (4, .int ((a2 11).getD l2_2.toNatClampNeg 0)), (0, .ref 10), (1, .ref 73)] [] (by rfl) ?_ | refine fo_goL mi_k21 fz21_214_2_9 [(3, .int (l3_2 + 1)), (6, .int vg59), (2, .int (l2_2 + 1)), (5, .int ((a2 12).getD l2_2.toNatClampNeg 0)), (4, .int ((a2 11).getD l2_2.toNatClampNeg 0)), (0, .ref 10), (1, .ref 73)] [] (by rfl) ?_
            refine ko_perm [(3, .int (l3_2 + 1)), (2, .int (l2_2 + 1)), (0, .ref 10), (1, .ref 73)] (List.forall_mem_cons.mpr ⟨(List.Mem.head _), (List.forall_mem_cons.mpr ⟨(List.Mem.tail _ (List.Mem.tail _ (List.Mem.head _))), (List.forall_mem_cons.mpr ⟨(List.Mem.tail _ (List.Mem.tail _ (List.Mem.tail _ (List.Mem.tail _ (List.Mem.tail _ (List.Mem.head _)))))), (List.forall_mem_cons.mpr ⟨(List.Mem.tail _ (List.Mem.tail _ (List.Mem.tail _ (List.Mem.tail _ (List.Mem.tail _ (List.Mem.tail _ (List.Mem.head _))))))), (fun _ h => absurd h List.not_mem_nil)⟩)⟩)⟩)⟩) ?_
            exact ih2 _ _ _ _ _ _ hGg65 (ow34 p2_0 s67 kow1) (lRun_bin O2_0 (kj_left (ow31 c5 kow121) (ow40 s67 kow1)) ⟨(ow25 c8 kow0), (ow39 c11 efi2_643)⟩ (kL_castn (hL2.fa 11 rfl) (ow60 w13)) (kL_castn (hL2.fa 11 rfl) (ow61 w13 w17)) (kL_castn (hL2.fa 11 rfl) (ow62 w13 w17 w31)) (kL_castn (hL2.fa 11 rfl) (ow63 w13 w17 w31 w35)) (kL_castn (hL2.fa 11 rfl) (ow64 w42)) (kL_castn (hL2.fa 11 rfl) (ow65 w53)) og59 og61 (og63.trans (congrArg (fun z : List Int32 => cJoin (z.getD l2_2.toNatClampNeg 0) _ _) (hL2.fa 11 rfl))) og65) (kj_meas (ow42 s67 kow1) (ow43 c5 kow121) hm2)
  exact lp2 _ _ _ _ _ _ _ (kG_self _ hJ1.I hJ1.R) (ow9 kow0) (by rw [kow0]; rfl) (Nat.lt_succ_self _)
noncomputable def yw21_100_73 : kW := ([6405], [103], [], [])
noncomputable def yw21_100_73_L9 : kW := ([6405], [103], [], [])
set_option maxRecDepth 100000 in
theorem ke21_100_73 {i : Nat → Int32} {a : Nat → List Int32} {q : Nat → List Int64} {r : Nat → Nat} (hI : kI i a q) (hr : kr r)  : km 3 21 [.ref 100, .ref 73] (ks i a q r) (kVI yw21_100_73 i a q r (fun v i1 a1 q1 r1 => (True) ∧ v = lRun (a 101) (a 102) (a 73) (i 6403) 121 0 (a 103, 0))) := by
  have hG := kG_self yw21_100_73 hI hr
  refine km_ofI (q := (mi_h21, mi_c21)) rfl (by decide) (Nat.le_of_ble_eq_true rfl) ?_
  intro P hP
  have hJ1 := kG_i hG 6405 rfl (v := 0) ⟨(ow9 kow0), (ow21 kow0)⟩
  first | refine fo_go mi_k21 fz21_0_7_9 [(3, .int 0), (2, .int 0), (0, .ref 100), (1, .ref 73)] [] (ku i 6405 0) a q r (by rfl) ?_ | refine ft_goL mi_k21 7 9 [(3, .int 0), (2, .int 0), (0, .ref 100), (1, .ref 73)] [] (by rfl) ?_ | refine ft_go mi_k21 7 9 [(3, .int 0), (2, .int 0), (0, .ref 100), (1, .ref 73)] [] (ku i 6405 0) a q r (by rfl) ?_ | refine ko_steps mi_in21 7 _ (9, [(3, .int 0), (2, .int 0), (0, .ref 100), (1, .ref 73)], [], (0, 0), ks (ku i 6405 0) a q r) (by rfl) ?_
  have lp2 : ∀ (nz : Nat) (i2 : Nat → Int32) (a2 : Nat → List Int32) (q2 : Nat → List Int64) (r2 : Nat → Nat) (l3_2 : Int32) (l2_2 : Int32), kG yw21_100_73_L9 (ku i 6405 0) a q r i2 a2 q2 r2 → (0 : Int) ≤ l3_2.toInt → lRun (a 101) (a 102) (a 73) (i 6403) (121 - l3_2.toInt).toNat l2_2 (a2 103, i2 6405) = lRun (a 101) (a 102) (a 73) (i 6403) 121 0 (a 103, 0) → ((121 - l3_2.toInt)).toNat < nz → ko 3 (mi_h21, mi_c21) P (9, [(3, .int l3_2), (2, .int l2_2), (0, .ref 100), (1, .ref 73)], [], (0, 0), ks i2 a2 q2 r2) := by
    intro nz
    induction nz with
    | zero =>
      intro _ _ _ _ _ _ _ _ _ hm
      exact absurd hm (Nat.not_lt_zero _)
    | succ nz ih2 =>
      intro i2 a2 q2 r2 l3_2 l2_2 hL2 p2_0 O2_0 hm2
      refine fo_goL mi_k21 fz21_9_2_12 [(3, .int l3_2), (2, .int l2_2), (0, .ref 100), (1, .ref 73)] [.int 121, .int l3_2] rfl ?_
      refine ft_ifS mi_k21 (decide (121 ≤ l3_2)) 220 15 [] (by rfl) (fun c => ?_) (fun c => ?_)
      ·
        have c3 : (121 : Int32).toInt ≤ l3_2.toInt := kd_le c; clear c
        have hG4 := kG_call hJ1 hL2 (by decide +kernel)
        refine fo_goS mi_k21 fz21_220_1_221 [.int 0] rfl ?_
        exact ft_ret mi_k21 (by rfl) (hP 0 _ _ _ _ hG4 ⟨trivial, (show (0 : Int32) = lRun (a 101) (a 102) (a 73) (i 6403) 121 0 (a 103, 0) from (lRun_end O2_0 (kj_none (ow22 c3 kow121))).symm)⟩)
      ·
        have c5 : l3_2.toInt < (121 : Int32).toInt := kd_leF c; clear c
        refine fo_goS mi_k21 fz21_15_1_16 [.int l2_2] rfl ?_
        refine ft_ifS mi_k21 (decide (l2_2 < 0)) 220 19 [] (by rfl) (fun c => ?_) (fun c => ?_)
        ·
          have c6 : l2_2.toInt < (0 : Int32).toInt := kd_lt c; clear c
          have hG7 := kG_call hJ1 hL2 (by decide +kernel)
          refine fo_goS mi_k21 fz21_220_1_221 [.int 0] rfl ?_
          exact ft_ret mi_k21 (by rfl) (hP 0 _ _ _ _ hG7 ⟨trivial, (show (0 : Int32) = lRun (a 101) (a 102) (a 73) (i 6403) 121 0 (a 103, 0) from (lRun_out O2_0 (ow23 c6 kow0)).symm)⟩)
        ·
          have c8 : (0 : Int32).toInt ≤ l2_2.toInt := kd_ltF c; clear c
          have fi2_6403 : ((0 : Int) ≤ (i2 6403).toInt) ∧ ((i2 6403).toInt ≤ 121) := hL2.I.1 6403
          have fi_6403 : ((0 : Int) ≤ (i 6403).toInt) ∧ ((i 6403).toInt ≤ 121) := hJ1.I.1 6403
          have efi2_6403 : (i2 6403).toInt = (i 6403).toInt := hL2.ti 6403 rfl
          refine fo_goS mi_k21 fz21_19_3_24 [.int (i2 6403), .int l2_2] rfl ?_
          refine ft_ifS mi_k21 (decide ((i2 6403) ≤ l2_2)) 220 27 [] (by rfl) (fun c => ?_) (fun c => ?_)
          ·
            have c9 : (i2 6403).toInt ≤ l2_2.toInt := kd_le c; clear c
            have hG10 := kG_call hJ1 hL2 (by decide +kernel)
            refine fo_goS mi_k21 fz21_220_1_221 [.int 0] rfl ?_
            exact ft_ret mi_k21 (by rfl) (hP 0 _ _ _ _ hG10 ⟨trivial, (show (0 : Int32) = lRun (a 101) (a 102) (a 73) (i 6403) 121 0 (a 103, 0) from (lRun_out O2_0 (ow24 c9 efi2_6403)).symm)⟩)
          ·
            have c11 : l2_2.toInt < (i2 6403).toInt := kd_leF c; clear c
            refine fo_goS mi_k21 fz21_27_3_32 [.int l2_2, .ref 101] rfl ?_
            refine ko_iald3 mi_k21.1 (n := 121) (c := 121) (ax := (0, 0, 0, 0, 0)) (mi_k21.2 _ _ (by rfl)) (by rfl) (ksG101 _ _ _ _) (hL2.I.2.1 101) rfl (ow25 c8 kow0) (ow26 c11 fi2_6403.2) ?_
            refine fo_goL mi_k21 fz21_33_4_40 [(4, .int ((a2 101).getD l2_2.toNatClampNeg 0)), (3, .int l3_2), (2, .int l2_2), (0, .ref 100), (1, .ref 73)] [.int l2_2, .ref 102] rfl ?_
            refine ko_iald3 mi_k21.1 (n := 121) (c := 121) (ax := (0, 0, 0, 0, 0)) (mi_k21.2 _ _ (by rfl)) (by rfl) (ksG102 _ _ _ _) (hL2.I.2.1 102) rfl (ow25 c8 kow0) (ow26 c11 fi2_6403.2) ?_
            have s12 : (l2_2 + 1).toInt = l2_2.toInt + (1 : Int32).toInt := kd_add (ow27 c8 kow0 kow1) (ow28 c11 fi2_6403.2 kow1)
            refine fo_goL mi_k21 fz21_41_3_48 [(2, .int (l2_2 + 1)), (5, .int ((a2 102).getD l2_2.toNatClampNeg 0)), (4, .int ((a2 101).getD l2_2.toNatClampNeg 0)), (3, .int l3_2), (0, .ref 100), (1, .ref 73)] [.int ((a2 101).getD l2_2.toNatClampNeg 0)] rfl ?_
            by_cases w13 : ((a2 101).getD l2_2.toNatClampNeg 0).toInt = 0
            ·
              refine ft_swx mi_k21 (pc := 48) (v := 0) (t := 108) (kj_eq w13 (by decide) : ((a2 101).getD l2_2.toNatClampNeg 0) = 0) (by decide +kernel) ?_
              refine fo_goS mi_k21 fz21_108_2_111 [.int ((a2 102).getD l2_2.toNatClampNeg 0), .ref 100] rfl ?_
              refine ko_callN mi_k21.1 (pc := 111) (ls := [(2, .int (l2_2 + 1)), (5, .int ((a2 102).getD l2_2.toNatClampNeg 0)), (4, .int ((a2 101).getD l2_2.toNatClampNeg 0)), (3, .int l3_2), (0, .ref 100), (1, .ref 73)]) (st := [.int ((a2 102).getD l2_2.toNatClampNeg 0), .ref 100]) (h := ks i2 a2 q2 r2) (i := (.invokevirtual 32, 3, 19, 0, 9, 0, 225)) (mi_k21.2 _ _ (by rfl)) (ft_invS mi_pq19 (by rfl)) (cy := mi_c19) mi_pq19 rfl (ke19_100 hL2.I hL2.R ((a2 102).getD l2_2.toNatClampNeg 0)) (by decide) ?_
              intro ig14 ag14 qg14 rg14 kg14 hg14
              have hGg14 := kG_call hL2 kg14 (by decide +kernel)
              obtain ⟨hg14, og14⟩ := hg14
              have s16 : (l3_2 + 1).toInt = l3_2.toInt + (1 : Int32).toInt := kd_add (ow32 p2_0 kow1) (ow38 c5 kow121 kow1)
              first | refine fo_goL mi_k21 fz21_6_3_9 [(3, .int (l3_2 + 1)), (2, .int (l2_2 + 1)), (5, .int ((a2 102).getD l2_2.toNatClampNeg 0)), (4, .int ((a2 101).getD l2_2.toNatClampNeg 0)), (0, .ref 100), (1, .ref 73)] [] (by rfl) ?_ | refine fo_goL mi_k21 fz21_114_3_9 [(3, .int (l3_2 + 1)), (2, .int (l2_2 + 1)), (5, .int ((a2 102).getD l2_2.toNatClampNeg 0)), (4, .int ((a2 101).getD l2_2.toNatClampNeg 0)), (0, .ref 100), (1, .ref 73)] [] (by rfl) ?_ | refine fo_goL mi_k21 fz21_141_3_9 [(3, .int (l3_2 + 1)), (2, .int (l2_2 + 1)), (5, .int ((a2 102).getD l2_2.toNatClampNeg 0)), (4, .int ((a2 101).getD l2_2.toNatClampNeg 0)), (0, .ref 100), (1, .ref 73)] [] (by rfl) ?_ | refine fo_goL mi_k21 fz21_153_3_9 [(3, .int (l3_2 + 1)), (2, .int (l2_2 + 1)), (5, .int ((a2 102).getD l2_2.toNatClampNeg 0)), (4, .int ((a2 101).getD l2_2.toNatClampNeg 0)), (0, .ref 100), (1, .ref 73)] [] (by rfl) ?_ | refine fo_goL mi_k21 fz21_159_3_9 [(3, .int (l3_2 + 1)), (2, .int (l2_2 + 1)), (5, .int ((a2 102).getD l2_2.toNatClampNeg 0)), (4, .int ((a2 101).getD l2_2.toNatClampNeg 0)), (0, .ref 100), (1, .ref 73)] [] (by rfl) ?_ | refine fo_goL mi_k21 fz21_178_3_9 [(3, .int (l3_2 + 1)), (2, .int (l2_2 + 1)), (5, .int ((a2 102).getD l2_2.toNatClampNeg 0)), (4, .int ((a2 101).getD l2_2.toNatClampNeg 0)), (0, .ref 100), (1, .ref 73)] [] (by rfl) ?_ | refine fo_goL mi_k21 fz21_190_3_9 [(3, .int (l3_2 + 1)), (2, .int (l2_2 + 1)), (5, .int ((a2 102).getD l2_2.toNatClampNeg 0)), (4, .int ((a2 101).getD l2_2.toNatClampNeg 0)), (0, .ref 100), (1, .ref 73)] [] (by rfl) ?_ | refine ft_goL mi_k21 3 9 [(3, .int (l3_2 + 1)), (2, .int (l2_2 + 1)), (5, .int ((a2 102).getD l2_2.toNatClampNeg 0)), (4, .int ((a2 101).getD l2_2.toNatClampNeg 0)), (0, .ref 100), (1, .ref 73)] [] (by rfl) ?_ | refine ko_steps mi_in21 3 _ (9, [(3, .int (l3_2 + 1)), (2, .int (l2_2 + 1)), (5, .int ((a2 102).getD l2_2.toNatClampNeg 0)), (4, .int ((a2 101).getD l2_2.toNatClampNeg 0)), (0, .ref 100), (1, .ref 73)], [], (0, 0), ks ig14 ag14 qg14 rg14) (by rfl) ?_
              refine ko_perm [(3, .int (l3_2 + 1)), (2, .int (l2_2 + 1)), (0, .ref 100), (1, .ref 73)] (List.forall_mem_cons.mpr ⟨(List.Mem.head _), (List.forall_mem_cons.mpr ⟨(List.Mem.tail _ (List.Mem.head _)), (List.forall_mem_cons.mpr ⟨(List.Mem.tail _ (List.Mem.tail _ (List.Mem.tail _ (List.Mem.tail _ (List.Mem.head _))))), (List.forall_mem_cons.mpr ⟨(List.Mem.tail _ (List.Mem.tail _ (List.Mem.tail _ (List.Mem.tail _ (List.Mem.tail _ (List.Mem.head _)))))), (fun _ h => absurd h List.not_mem_nil)⟩)⟩)⟩)⟩) ?_
              exact ih2 _ _ _ _ _ _ hGg14 (ow34 p2_0 s16 kow1) (lRun_num O2_0 (kj_left (ow31 c5 kow121) (ow40 s16 kow1)) ⟨(ow25 c8 kow0), (ow39 c11 efi2_6403)⟩ (kL_cast (hL2.fa 101 rfl) (ow41 w13)) (congrArg (fun z : List Int32 => z.getD l2_2.toNatClampNeg 0) (hL2.fa 102 rfl)) og14) (kj_meas (ow42 s16 kow1) (ow43 c5 kow121) hm2)
            by_cases w17 : ((a2 101).getD l2_2.toNatClampNeg 0).toInt = 1
            ·
              refine ft_swx mi_k21 (pc := 48) (v := 1) (t := 117) (kj_eq w17 (by decide) : ((a2 101).getD l2_2.toNatClampNeg 0) = 1) (by decide +kernel) ?_
              refine fo_goS mi_k21 fz21_117_2_120 [.int ((a2 102).getD l2_2.toNatClampNeg 0), .ref 100] rfl ?_
              refine ft_ifS mi_k21 (decide (((a2 102).getD l2_2.toNatClampNeg 0) < 0)) 137 123 [.ref 100] (by rfl) (fun c => ?_) (fun c => ?_)
              ·
                have c18 : ((a2 102).getD l2_2.toNatClampNeg 0).toInt < (0 : Int32).toInt := kd_lt c; clear c
                first | refine fo_goS mi_k21 fz21_134_1_138 [.int 0, .ref 100] (by rfl) ?_ | refine fo_goS mi_k21 fz21_137_1_138 [.int 0, .ref 100] (by rfl) ?_
                refine ko_callN mi_k21.1 (pc := 138) (ls := [(2, .int (l2_2 + 1)), (5, .int ((a2 102).getD l2_2.toNatClampNeg 0)), (4, .int ((a2 101).getD l2_2.toNatClampNeg 0)), (3, .int l3_2), (0, .ref 100), (1, .ref 73)]) (st := [.int 0, .ref 100]) (h := ks i2 a2 q2 r2) (i := (.invokevirtual 32, 3, 19, 0, 9, 0, 225)) (mi_k21.2 _ _ (by rfl)) (ft_invS mi_pq19 (by rfl)) (cy := mi_c19) mi_pq19 rfl (ke19_100 hL2.I hL2.R 0) (by decide) ?_
                intro ig19 ag19 qg19 rg19 kg19 hg19
                have hGg19 := kG_call hL2 kg19 (by decide +kernel)
                obtain ⟨hg19, og19⟩ := hg19
                have fi2_6405 : ((0 : Int) ≤ (i2 6405).toInt) ∧ ((i2 6405).toInt ≤ 121) := hL2.I.1 6405
                have fig19_6405 : ((0 : Int) ≤ (ig19 6405).toInt) ∧ ((ig19 6405).toInt ≤ 121) := hGg19.I.1 6405
                have z20 : (((i2 6405).toInt ≤ 120) ∧ ((ig19 6405).toInt = ((i2 6405).toInt + 1))) ∨ (((121 : Int) ≤ (i2 6405).toInt) ∧ ((ig19 6405).toInt = (i2 6405).toInt)) := hg19
                have s21 : (l3_2 + 1).toInt = l3_2.toInt + (1 : Int32).toInt := kd_add (ow32 p2_0 kow1) (ow38 c5 kow121 kow1)
                first | refine fo_goL mi_k21 fz21_6_3_9 [(3, .int (l3_2 + 1)), (2, .int (l2_2 + 1)), (5, .int ((a2 102).getD l2_2.toNatClampNeg 0)), (4, .int ((a2 101).getD l2_2.toNatClampNeg 0)), (0, .ref 100), (1, .ref 73)] [] (by rfl) ?_ | refine fo_goL mi_k21 fz21_114_3_9 [(3, .int (l3_2 + 1)), (2, .int (l2_2 + 1)), (5, .int ((a2 102).getD l2_2.toNatClampNeg 0)), (4, .int ((a2 101).getD l2_2.toNatClampNeg 0)), (0, .ref 100), (1, .ref 73)] [] (by rfl) ?_ | refine fo_goL mi_k21 fz21_141_3_9 [(3, .int (l3_2 + 1)), (2, .int (l2_2 + 1)), (5, .int ((a2 102).getD l2_2.toNatClampNeg 0)), (4, .int ((a2 101).getD l2_2.toNatClampNeg 0)), (0, .ref 100), (1, .ref 73)] [] (by rfl) ?_ | refine fo_goL mi_k21 fz21_153_3_9 [(3, .int (l3_2 + 1)), (2, .int (l2_2 + 1)), (5, .int ((a2 102).getD l2_2.toNatClampNeg 0)), (4, .int ((a2 101).getD l2_2.toNatClampNeg 0)), (0, .ref 100), (1, .ref 73)] [] (by rfl) ?_ | refine fo_goL mi_k21 fz21_159_3_9 [(3, .int (l3_2 + 1)), (2, .int (l2_2 + 1)), (5, .int ((a2 102).getD l2_2.toNatClampNeg 0)), (4, .int ((a2 101).getD l2_2.toNatClampNeg 0)), (0, .ref 100), (1, .ref 73)] [] (by rfl) ?_ | refine fo_goL mi_k21 fz21_178_3_9 [(3, .int (l3_2 + 1)), (2, .int (l2_2 + 1)), (5, .int ((a2 102).getD l2_2.toNatClampNeg 0)), (4, .int ((a2 101).getD l2_2.toNatClampNeg 0)), (0, .ref 100), (1, .ref 73)] [] (by rfl) ?_ | refine fo_goL mi_k21 fz21_190_3_9 [(3, .int (l3_2 + 1)), (2, .int (l2_2 + 1)), (5, .int ((a2 102).getD l2_2.toNatClampNeg 0)), (4, .int ((a2 101).getD l2_2.toNatClampNeg 0)), (0, .ref 100), (1, .ref 73)] [] (by rfl) ?_ | refine ft_goL mi_k21 3 9 [(3, .int (l3_2 + 1)), (2, .int (l2_2 + 1)), (5, .int ((a2 102).getD l2_2.toNatClampNeg 0)), (4, .int ((a2 101).getD l2_2.toNatClampNeg 0)), (0, .ref 100), (1, .ref 73)] [] (by rfl) ?_ | refine ko_steps mi_in21 3 _ (9, [(3, .int (l3_2 + 1)), (2, .int (l2_2 + 1)), (5, .int ((a2 102).getD l2_2.toNatClampNeg 0)), (4, .int ((a2 101).getD l2_2.toNatClampNeg 0)), (0, .ref 100), (1, .ref 73)], [], (0, 0), ks ig19 ag19 qg19 rg19) (by rfl) ?_
                refine ko_perm [(3, .int (l3_2 + 1)), (2, .int (l2_2 + 1)), (0, .ref 100), (1, .ref 73)] (List.forall_mem_cons.mpr ⟨(List.Mem.head _), (List.forall_mem_cons.mpr ⟨(List.Mem.tail _ (List.Mem.head _)), (List.forall_mem_cons.mpr ⟨(List.Mem.tail _ (List.Mem.tail _ (List.Mem.tail _ (List.Mem.tail _ (List.Mem.head _))))), (List.forall_mem_cons.mpr ⟨(List.Mem.tail _ (List.Mem.tail _ (List.Mem.tail _ (List.Mem.tail _ (List.Mem.tail _ (List.Mem.head _)))))), (fun _ h => absurd h List.not_mem_nil)⟩)⟩)⟩)⟩) ?_
                exact ih2 _ _ _ _ _ _ hGg19 (ow34 p2_0 s21 kow1) (lRun_name O2_0 (kj_left (ow31 c5 kow121) (ow40 s21 kow1)) ⟨(ow25 c8 kow0), (ow39 c11 efi2_6403)⟩ (kL_cast (hL2.fa 101 rfl) (ow44 w17)) (by have k0_ : (0 : Int32).toInt = 0 := (by decide); have k6_ : (6 : Int32).toInt = 6 := (by decide); rw [← ((hL2.fa 102 rfl) : a2 102 = a 102), ← ((hL2.fa 73 rfl) : a2 73 = a 73)]; split <;> first | rfl | (exfalso; omega)) og19) (kj_meas (ow42 s21 kow1) (ow43 c5 kow121) hm2)
              ·
                have c22 : (0 : Int32).toInt ≤ ((a2 102).getD l2_2.toNatClampNeg 0).toInt := kd_ltF c; clear c
                refine fo_goS mi_k21 fz21_123_2_126 [.ref 73, .int ((a2 102).getD l2_2.toNatClampNeg 0), .ref 100] rfl ?_
                refine ko_alen mi_k21.1 (l := a2 73) (ax := (0, 0, 0, 0, 0)) (x := 6) (mi_k21.2 _ _ (by rfl)) (by rfl) (by rfl) (by rw [(hL2.I.2.1 73 : (a2 73).length = _)]; rfl) ?_
                refine ft_ifS mi_k21 (decide (6 ≤ ((a2 102).getD l2_2.toNatClampNeg 0))) 137 130 [.ref 100] (by rfl) (fun c => ?_) (fun c => ?_)
                ·
                  have c23 : (6 : Int32).toInt ≤ ((a2 102).getD l2_2.toNatClampNeg 0).toInt := kd_le c; clear c
                  first | refine fo_goS mi_k21 fz21_134_1_138 [.int 0, .ref 100] (by rfl) ?_ | refine fo_goS mi_k21 fz21_137_1_138 [.int 0, .ref 100] (by rfl) ?_
                  refine ko_callN mi_k21.1 (pc := 138) (ls := [(2, .int (l2_2 + 1)), (5, .int ((a2 102).getD l2_2.toNatClampNeg 0)), (4, .int ((a2 101).getD l2_2.toNatClampNeg 0)), (3, .int l3_2), (0, .ref 100), (1, .ref 73)]) (st := [.int 0, .ref 100]) (h := ks i2 a2 q2 r2) (i := (.invokevirtual 32, 3, 19, 0, 9, 0, 225)) (mi_k21.2 _ _ (by rfl)) (ft_invS mi_pq19 (by rfl)) (cy := mi_c19) mi_pq19 rfl (ke19_100 hL2.I hL2.R 0) (by decide) ?_
                  intro ig24 ag24 qg24 rg24 kg24 hg24
                  have hGg24 := kG_call hL2 kg24 (by decide +kernel)
                  obtain ⟨hg24, og24⟩ := hg24
                  have fi2_6405 : ((0 : Int) ≤ (i2 6405).toInt) ∧ ((i2 6405).toInt ≤ 121) := hL2.I.1 6405
                  have fig24_6405 : ((0 : Int) ≤ (ig24 6405).toInt) ∧ ((ig24 6405).toInt ≤ 121) := hGg24.I.1 6405
                  have z25 : (((i2 6405).toInt ≤ 120) ∧ ((ig24 6405).toInt = ((i2 6405).toInt + 1))) ∨ (((121 : Int) ≤ (i2 6405).toInt) ∧ ((ig24 6405).toInt = (i2 6405).toInt)) := hg24
                  have s26 : (l3_2 + 1).toInt = l3_2.toInt + (1 : Int32).toInt := kd_add (ow32 p2_0 kow1) (ow38 c5 kow121 kow1)
                  first | refine fo_goL mi_k21 fz21_6_3_9 [(3, .int (l3_2 + 1)), (2, .int (l2_2 + 1)), (5, .int ((a2 102).getD l2_2.toNatClampNeg 0)), (4, .int ((a2 101).getD l2_2.toNatClampNeg 0)), (0, .ref 100), (1, .ref 73)] [] (by rfl) ?_ | refine fo_goL mi_k21 fz21_114_3_9 [(3, .int (l3_2 + 1)), (2, .int (l2_2 + 1)), (5, .int ((a2 102).getD l2_2.toNatClampNeg 0)), (4, .int ((a2 101).getD l2_2.toNatClampNeg 0)), (0, .ref 100), (1, .ref 73)] [] (by rfl) ?_ | refine fo_goL mi_k21 fz21_141_3_9 [(3, .int (l3_2 + 1)), (2, .int (l2_2 + 1)), (5, .int ((a2 102).getD l2_2.toNatClampNeg 0)), (4, .int ((a2 101).getD l2_2.toNatClampNeg 0)), (0, .ref 100), (1, .ref 73)] [] (by rfl) ?_ | refine fo_goL mi_k21 fz21_153_3_9 [(3, .int (l3_2 + 1)), (2, .int (l2_2 + 1)), (5, .int ((a2 102).getD l2_2.toNatClampNeg 0)), (4, .int ((a2 101).getD l2_2.toNatClampNeg 0)), (0, .ref 100), (1, .ref 73)] [] (by rfl) ?_ | refine fo_goL mi_k21 fz21_159_3_9 [(3, .int (l3_2 + 1)), (2, .int (l2_2 + 1)), (5, .int ((a2 102).getD l2_2.toNatClampNeg 0)), (4, .int ((a2 101).getD l2_2.toNatClampNeg 0)), (0, .ref 100), (1, .ref 73)] [] (by rfl) ?_ | refine fo_goL mi_k21 fz21_178_3_9 [(3, .int (l3_2 + 1)), (2, .int (l2_2 + 1)), (5, .int ((a2 102).getD l2_2.toNatClampNeg 0)), (4, .int ((a2 101).getD l2_2.toNatClampNeg 0)), (0, .ref 100), (1, .ref 73)] [] (by rfl) ?_ | refine fo_goL mi_k21 fz21_190_3_9 [(3, .int (l3_2 + 1)), (2, .int (l2_2 + 1)), (5, .int ((a2 102).getD l2_2.toNatClampNeg 0)), (4, .int ((a2 101).getD l2_2.toNatClampNeg 0)), (0, .ref 100), (1, .ref 73)] [] (by rfl) ?_ | refine ft_goL mi_k21 3 9 [(3, .int (l3_2 + 1)), (2, .int (l2_2 + 1)), (5, .int ((a2 102).getD l2_2.toNatClampNeg 0)), (4, .int ((a2 101).getD l2_2.toNatClampNeg 0)), (0, .ref 100), (1, .ref 73)] [] (by rfl) ?_ | refine ko_steps mi_in21 3 _ (9, [(3, .int (l3_2 + 1)), (2, .int (l2_2 + 1)), (5, .int ((a2 102).getD l2_2.toNatClampNeg 0)), (4, .int ((a2 101).getD l2_2.toNatClampNeg 0)), (0, .ref 100), (1, .ref 73)], [], (0, 0), ks ig24 ag24 qg24 rg24) (by rfl) ?_
                  refine ko_perm [(3, .int (l3_2 + 1)), (2, .int (l2_2 + 1)), (0, .ref 100), (1, .ref 73)] (List.forall_mem_cons.mpr ⟨(List.Mem.head _), (List.forall_mem_cons.mpr ⟨(List.Mem.tail _ (List.Mem.head _)), (List.forall_mem_cons.mpr ⟨(List.Mem.tail _ (List.Mem.tail _ (List.Mem.tail _ (List.Mem.tail _ (List.Mem.head _))))), (List.forall_mem_cons.mpr ⟨(List.Mem.tail _ (List.Mem.tail _ (List.Mem.tail _ (List.Mem.tail _ (List.Mem.tail _ (List.Mem.head _)))))), (fun _ h => absurd h List.not_mem_nil)⟩)⟩)⟩)⟩) ?_
                  exact ih2 _ _ _ _ _ _ hGg24 (ow34 p2_0 s26 kow1) (lRun_name O2_0 (kj_left (ow31 c5 kow121) (ow40 s26 kow1)) ⟨(ow25 c8 kow0), (ow39 c11 efi2_6403)⟩ (kL_cast (hL2.fa 101 rfl) (ow44 w17)) (by have k0_ : (0 : Int32).toInt = 0 := (by decide); have k6_ : (6 : Int32).toInt = 6 := (by decide); rw [← ((hL2.fa 102 rfl) : a2 102 = a 102), ← ((hL2.fa 73 rfl) : a2 73 = a 73)]; split <;> first | rfl | (exfalso; omega)) og24) (kj_meas (ow42 s26 kow1) (ow43 c5 kow121) hm2)
                ·
                  have c27 : ((a2 102).getD l2_2.toNatClampNeg 0).toInt < (6 : Int32).toInt := kd_leF c; clear c
                  refine fo_goS mi_k21 fz21_130_2_133 [.int ((a2 102).getD l2_2.toNatClampNeg 0), .ref 73, .ref 100] rfl ?_
                  refine ko_iald3 mi_k21.1 (n := 6) (c := 6) (ax := (0, 0, 0, 0, 0)) (mi_k21.2 _ _ (by rfl)) (by rfl) (ksG73 _ _ _ _) (hL2.I.2.1 73) rfl (ow25 c22 kow0) (ow45 c27 kow6) ?_
                  first | refine fo_goS mi_k21 fz21_134_1_138 [.int ((a2 73).getD ((a2 102).getD l2_2.toNatClampNeg 0).toNatClampNeg 0), .ref 100] (by rfl) ?_ | refine fo_goS mi_k21 fz21_137_1_138 [.int ((a2 73).getD ((a2 102).getD l2_2.toNatClampNeg 0).toNatClampNeg 0), .ref 100] (by rfl) ?_
                  refine ko_callN mi_k21.1 (pc := 138) (ls := [(2, .int (l2_2 + 1)), (5, .int ((a2 102).getD l2_2.toNatClampNeg 0)), (4, .int ((a2 101).getD l2_2.toNatClampNeg 0)), (3, .int l3_2), (0, .ref 100), (1, .ref 73)]) (st := [.int ((a2 73).getD ((a2 102).getD l2_2.toNatClampNeg 0).toNatClampNeg 0), .ref 100]) (h := ks i2 a2 q2 r2) (i := (.invokevirtual 32, 3, 19, 0, 9, 0, 225)) (mi_k21.2 _ _ (by rfl)) (ft_invS mi_pq19 (by rfl)) (cy := mi_c19) mi_pq19 rfl (ke19_100 hL2.I hL2.R ((a2 73).getD ((a2 102).getD l2_2.toNatClampNeg 0).toNatClampNeg 0)) (by decide) ?_
                  intro ig28 ag28 qg28 rg28 kg28 hg28
                  have hGg28 := kG_call hL2 kg28 (by decide +kernel)
                  obtain ⟨hg28, og28⟩ := hg28
                  have fi2_6405 : ((0 : Int) ≤ (i2 6405).toInt) ∧ ((i2 6405).toInt ≤ 121) := hL2.I.1 6405
                  have fig28_6405 : ((0 : Int) ≤ (ig28 6405).toInt) ∧ ((ig28 6405).toInt ≤ 121) := hGg28.I.1 6405
                  have z29 : (((i2 6405).toInt ≤ 120) ∧ ((ig28 6405).toInt = ((i2 6405).toInt + 1))) ∨ (((121 : Int) ≤ (i2 6405).toInt) ∧ ((ig28 6405).toInt = (i2 6405).toInt)) := hg28
                  have s30 : (l3_2 + 1).toInt = l3_2.toInt + (1 : Int32).toInt := kd_add (ow32 p2_0 kow1) (ow38 c5 kow121 kow1)
                  first | refine fo_goL mi_k21 fz21_6_3_9 [(3, .int (l3_2 + 1)), (2, .int (l2_2 + 1)), (5, .int ((a2 102).getD l2_2.toNatClampNeg 0)), (4, .int ((a2 101).getD l2_2.toNatClampNeg 0)), (0, .ref 100), (1, .ref 73)] [] (by rfl) ?_ | refine fo_goL mi_k21 fz21_114_3_9 [(3, .int (l3_2 + 1)), (2, .int (l2_2 + 1)), (5, .int ((a2 102).getD l2_2.toNatClampNeg 0)), (4, .int ((a2 101).getD l2_2.toNatClampNeg 0)), (0, .ref 100), (1, .ref 73)] [] (by rfl) ?_ | refine fo_goL mi_k21 fz21_141_3_9 [(3, .int (l3_2 + 1)), (2, .int (l2_2 + 1)), (5, .int ((a2 102).getD l2_2.toNatClampNeg 0)), (4, .int ((a2 101).getD l2_2.toNatClampNeg 0)), (0, .ref 100), (1, .ref 73)] [] (by rfl) ?_ | refine fo_goL mi_k21 fz21_153_3_9 [(3, .int (l3_2 + 1)), (2, .int (l2_2 + 1)), (5, .int ((a2 102).getD l2_2.toNatClampNeg 0)), (4, .int ((a2 101).getD l2_2.toNatClampNeg 0)), (0, .ref 100), (1, .ref 73)] [] (by rfl) ?_ | refine fo_goL mi_k21 fz21_159_3_9 [(3, .int (l3_2 + 1)), (2, .int (l2_2 + 1)), (5, .int ((a2 102).getD l2_2.toNatClampNeg 0)), (4, .int ((a2 101).getD l2_2.toNatClampNeg 0)), (0, .ref 100), (1, .ref 73)] [] (by rfl) ?_ | refine fo_goL mi_k21 fz21_178_3_9 [(3, .int (l3_2 + 1)), (2, .int (l2_2 + 1)), (5, .int ((a2 102).getD l2_2.toNatClampNeg 0)), (4, .int ((a2 101).getD l2_2.toNatClampNeg 0)), (0, .ref 100), (1, .ref 73)] [] (by rfl) ?_ | refine fo_goL mi_k21 fz21_190_3_9 [(3, .int (l3_2 + 1)), (2, .int (l2_2 + 1)), (5, .int ((a2 102).getD l2_2.toNatClampNeg 0)), (4, .int ((a2 101).getD l2_2.toNatClampNeg 0)), (0, .ref 100), (1, .ref 73)] [] (by rfl) ?_ | refine ft_goL mi_k21 3 9 [(3, .int (l3_2 + 1)), (2, .int (l2_2 + 1)), (5, .int ((a2 102).getD l2_2.toNatClampNeg 0)), (4, .int ((a2 101).getD l2_2.toNatClampNeg 0)), (0, .ref 100), (1, .ref 73)] [] (by rfl) ?_ | refine ko_steps mi_in21 3 _ (9, [(3, .int (l3_2 + 1)), (2, .int (l2_2 + 1)), (5, .int ((a2 102).getD l2_2.toNatClampNeg 0)), (4, .int ((a2 101).getD l2_2.toNatClampNeg 0)), (0, .ref 100), (1, .ref 73)], [], (0, 0), ks ig28 ag28 qg28 rg28) (by rfl) ?_
                  refine ko_perm [(3, .int (l3_2 + 1)), (2, .int (l2_2 + 1)), (0, .ref 100), (1, .ref 73)] (List.forall_mem_cons.mpr ⟨(List.Mem.head _), (List.forall_mem_cons.mpr ⟨(List.Mem.tail _ (List.Mem.head _)), (List.forall_mem_cons.mpr ⟨(List.Mem.tail _ (List.Mem.tail _ (List.Mem.tail _ (List.Mem.tail _ (List.Mem.head _))))), (List.forall_mem_cons.mpr ⟨(List.Mem.tail _ (List.Mem.tail _ (List.Mem.tail _ (List.Mem.tail _ (List.Mem.tail _ (List.Mem.head _)))))), (fun _ h => absurd h List.not_mem_nil)⟩)⟩)⟩)⟩) ?_
                  exact ih2 _ _ _ _ _ _ hGg28 (ow34 p2_0 s30 kow1) (lRun_name O2_0 (kj_left (ow31 c5 kow121) (ow40 s30 kow1)) ⟨(ow25 c8 kow0), (ow39 c11 efi2_6403)⟩ (kL_cast (hL2.fa 101 rfl) (ow44 w17)) (by have k0_ : (0 : Int32).toInt = 0 := (by decide); have k6_ : (6 : Int32).toInt = 6 := (by decide); rw [← ((hL2.fa 102 rfl) : a2 102 = a 102), ← ((hL2.fa 73 rfl) : a2 73 = a 73)]; split <;> first | rfl | (exfalso; omega)) og28) (kj_meas (ow42 s30 kow1) (ow43 c5 kow121) hm2)
            by_cases w31 : ((a2 101).getD l2_2.toNatClampNeg 0).toInt = 2
            ·
              refine ft_swx mi_k21 (pc := 48) (v := 2) (t := 144) (kj_eq w31 (by decide) : ((a2 101).getD l2_2.toNatClampNeg 0) = 2) (by decide +kernel) ?_
              have hG32 := kG_call hJ1 hL2 (by decide +kernel)
              refine fo_goS mi_k21 fz21_144_1_145 [.ref 100] rfl ?_
              refine ko_callI mi_k21.1 (pc := 145) (ls := [(2, .int (l2_2 + 1)), (5, .int ((a2 102).getD l2_2.toNatClampNeg 0)), (4, .int ((a2 101).getD l2_2.toNatClampNeg 0)), (3, .int l3_2), (0, .ref 100), (1, .ref 73)]) (st := [.ref 100]) (h := ks i2 a2 q2 r2) (i := (.invokevirtual 36, 3, 20, 0, 9, 0, 226)) (mi_k21.2 _ _ (by rfl)) (ft_invS mi_pq20 (by rfl)) (cy := mi_c20) mi_pq20 rfl (ke20_100 hG32.I hG32.R ) (by decide) ?_
              intro vg33 ig33 ag33 qg33 rg33 kg33 hg33
              have hGg33 := kG_call hG32 kg33 (by decide +kernel)
              obtain ⟨hg33, og33⟩ := hg33
              exact ft_ret mi_k21 (by rfl) (hP vg33 _ _ _ _ hGg33 ⟨trivial, (show vg33 = lRun (a 101) (a 102) (a 73) (i 6403) 121 0 (a 103, 0) from (lRun_ans (n := (120 - l3_2.toInt).toNat) O2_0 (kj_left2 (ow31 c5 kow121)) ⟨(ow25 c8 kow0), (ow39 c11 efi2_6403)⟩ (kL_cast (hL2.fa 101 rfl) (ow55 w31)) og33))⟩)
            by_cases w35 : ((a2 101).getD l2_2.toNatClampNeg 0).toInt = 3
            ·
              refine ft_swx mi_k21 (pc := 48) (v := 3) (t := 149) (kj_eq w35 (by decide) : ((a2 101).getD l2_2.toNatClampNeg 0) = 3) (by decide +kernel) ?_
              refine fo_goS mi_k21 fz21_149_1_150 [.ref 100] rfl ?_
              refine ko_callI mi_k21.1 (pc := 150) (ls := [(2, .int (l2_2 + 1)), (5, .int ((a2 102).getD l2_2.toNatClampNeg 0)), (4, .int ((a2 101).getD l2_2.toNatClampNeg 0)), (3, .int l3_2), (0, .ref 100), (1, .ref 73)]) (st := [.ref 100]) (h := ks i2 a2 q2 r2) (i := (.invokevirtual 36, 3, 20, 0, 9, 0, 226)) (mi_k21.2 _ _ (by rfl)) (ft_invS mi_pq20 (by rfl)) (cy := mi_c20) mi_pq20 rfl (ke20_100 hL2.I hL2.R ) (by decide) ?_
              intro vg36 ig36 ag36 qg36 rg36 kg36 hg36
              have hGg36 := kG_call hL2 kg36 (by decide +kernel)
              obtain ⟨hg36, og36⟩ := hg36
              have fi2_6405 : ((0 : Int) ≤ (i2 6405).toInt) ∧ ((i2 6405).toInt ≤ 121) := hL2.I.1 6405
              have fig36_6405 : ((0 : Int) ≤ (ig36 6405).toInt) ∧ ((ig36 6405).toInt ≤ 121) := hGg36.I.1 6405
              have z37 : (((1 : Int) ≤ (i2 6405).toInt) ∧ ((ig36 6405).toInt = ((i2 6405).toInt - 1))) ∨ (((i2 6405).toInt ≤ 0) ∧ ((ig36 6405).toInt = (i2 6405).toInt)) := hg36
              refine ft_ifS mi_k21 (vg36 != 0) 214 156 [] (by rfl) (fun c => ?_) (fun c => ?_)
              ·
                have c38 : vg36.toInt ≠ (0 : Int32).toInt := kd_ne c; clear c
                have s39 : (l3_2 + 1).toInt = l3_2.toInt + (1 : Int32).toInt := kd_add (ow32 p2_0 kow1) (ow38 c5 kow121 kow1)
                first | refine fo_goL mi_k21 fz21_7_2_9 [(3, .int (l3_2 + 1)), (2, .int (l2_2 + 1)), (5, .int ((a2 102).getD l2_2.toNatClampNeg 0)), (4, .int ((a2 101).getD l2_2.toNatClampNeg 0)), (0, .ref 100), (1, .ref 73)] [] (by rfl) ?_ | refine fo_goL mi_k21 fz21_214_2_9 [(3, .int (l3_2 + 1)), (2, .int (l2_2 + 1)), (5, .int ((a2 102).getD l2_2.toNatClampNeg 0)), (4, .int ((a2 101).getD l2_2.toNatClampNeg 0)), (0, .ref 100), (1, .ref 73)] [] (by rfl) ?_
                refine ko_perm [(3, .int (l3_2 + 1)), (2, .int (l2_2 + 1)), (0, .ref 100), (1, .ref 73)] (List.forall_mem_cons.mpr ⟨(List.Mem.head _), (List.forall_mem_cons.mpr ⟨(List.Mem.tail _ (List.Mem.head _)), (List.forall_mem_cons.mpr ⟨(List.Mem.tail _ (List.Mem.tail _ (List.Mem.tail _ (List.Mem.tail _ (List.Mem.head _))))), (List.forall_mem_cons.mpr ⟨(List.Mem.tail _ (List.Mem.tail _ (List.Mem.tail _ (List.Mem.tail _ (List.Mem.tail _ (List.Mem.head _)))))), (fun _ h => absurd h List.not_mem_nil)⟩)⟩)⟩)⟩) ?_
                exact ih2 _ _ _ _ _ _ hGg36 (ow34 p2_0 s39 kow1) (lRun_skip O2_0 (kj_left (ow31 c5 kow121) (ow40 s39 kow1)) ⟨(ow25 c8 kow0), (ow39 c11 efi2_6403)⟩ (kL_cast (hL2.fa 101 rfl) (ow56 w35)) og36 (by have k0_ : (0 : Int32).toInt = 0 := (by decide); have k6_ : (6 : Int32).toInt = 6 := (by decide); rw [← ((hL2.fa 102 rfl) : a2 102 = a 102)]; split <;> first | rfl | (exfalso; omega))) (kj_meas (ow42 s39 kow1) (ow43 c5 kow121) hm2)
              ·
                have c40 : vg36.toInt = (0 : Int32).toInt := kd_neF c; clear c
                have s41 : (l3_2 + 1).toInt = l3_2.toInt + (1 : Int32).toInt := kd_add (ow32 p2_0 kow1) (ow38 c5 kow121 kow1)
                first | refine fo_go mi_k21 fz21_2_5_9 [(3, .int (l3_2 + 1)), (2, .int ((a2 102).getD l2_2.toNatClampNeg 0)), (5, .int ((a2 102).getD l2_2.toNatClampNeg 0)), (4, .int ((a2 101).getD l2_2.toNatClampNeg 0)), (0, .ref 100), (1, .ref 73)] [] ig36 ag36 qg36 rg36 (by rfl) ?_ | refine fo_goL mi_k21 fz21_156_5_9 [(3, .int (l3_2 + 1)), (2, .int ((a2 102).getD l2_2.toNatClampNeg 0)), (5, .int ((a2 102).getD l2_2.toNatClampNeg 0)), (4, .int ((a2 101).getD l2_2.toNatClampNeg 0)), (0, .ref 100), (1, .ref 73)] [] (by rfl) ?_ | refine ft_goL mi_k21 5 9 [(3, .int (l3_2 + 1)), (2, .int ((a2 102).getD l2_2.toNatClampNeg 0)), (5, .int ((a2 102).getD l2_2.toNatClampNeg 0)), (4, .int ((a2 101).getD l2_2.toNatClampNeg 0)), (0, .ref 100), (1, .ref 73)] [] (by rfl) ?_ | refine ft_go mi_k21 5 9 [(3, .int (l3_2 + 1)), (2, .int ((a2 102).getD l2_2.toNatClampNeg 0)), (5, .int ((a2 102).getD l2_2.toNatClampNeg 0)), (4, .int ((a2 101).getD l2_2.toNatClampNeg 0)), (0, .ref 100), (1, .ref 73)] [] ig36 ag36 qg36 rg36 (by rfl) ?_ | refine ko_steps mi_in21 5 _ (9, [(3, .int (l3_2 + 1)), (2, .int ((a2 102).getD l2_2.toNatClampNeg 0)), (5, .int ((a2 102).getD l2_2.toNatClampNeg 0)), (4, .int ((a2 101).getD l2_2.toNatClampNeg 0)), (0, .ref 100), (1, .ref 73)], [], (0, 0), ks ig36 ag36 qg36 rg36) (by rfl) ?_
                refine ko_perm [(3, .int (l3_2 + 1)), (2, .int ((a2 102).getD l2_2.toNatClampNeg 0)), (0, .ref 100), (1, .ref 73)] (List.forall_mem_cons.mpr ⟨(List.Mem.head _), (List.forall_mem_cons.mpr ⟨(List.Mem.tail _ (List.Mem.head _)), (List.forall_mem_cons.mpr ⟨(List.Mem.tail _ (List.Mem.tail _ (List.Mem.tail _ (List.Mem.tail _ (List.Mem.head _))))), (List.forall_mem_cons.mpr ⟨(List.Mem.tail _ (List.Mem.tail _ (List.Mem.tail _ (List.Mem.tail _ (List.Mem.tail _ (List.Mem.head _)))))), (fun _ h => absurd h List.not_mem_nil)⟩)⟩)⟩)⟩) ?_
                exact ih2 _ _ _ _ _ _ hGg36 (ow34 p2_0 s41 kow1) (lRun_skip O2_0 (kj_left (ow31 c5 kow121) (ow40 s41 kow1)) ⟨(ow25 c8 kow0), (ow39 c11 efi2_6403)⟩ (kL_cast (hL2.fa 101 rfl) (ow56 w35)) og36 (by have k0_ : (0 : Int32).toInt = 0 := (by decide); have k6_ : (6 : Int32).toInt = 6 := (by decide); rw [← ((hL2.fa 102 rfl) : a2 102 = a 102)]; split <;> first | rfl | (exfalso; omega))) (kj_meas (ow42 s41 kow1) (ow43 c5 kow121) hm2)
            by_cases w42 : ((a2 101).getD l2_2.toNatClampNeg 0).toInt = 33
            ·
              refine ft_swx mi_k21 (pc := 48) (v := 33) (t := 162) (kj_eq w42 (by decide) : ((a2 101).getD l2_2.toNatClampNeg 0) = 33) (by decide +kernel) ?_
              refine fo_goS mi_k21 fz21_162_2_164 [.ref 100, .ref 100] rfl ?_
              refine ko_callI mi_k21.1 (pc := 164) (ls := [(2, .int (l2_2 + 1)), (5, .int ((a2 102).getD l2_2.toNatClampNeg 0)), (4, .int ((a2 101).getD l2_2.toNatClampNeg 0)), (3, .int l3_2), (0, .ref 100), (1, .ref 73)]) (st := [.ref 100, .ref 100]) (h := ks i2 a2 q2 r2) (i := (.invokevirtual 36, 3, 20, 0, 9, 0, 226)) (mi_k21.2 _ _ (by rfl)) (ft_invS mi_pq20 (by rfl)) (cy := mi_c20) mi_pq20 rfl (ke20_100 hL2.I hL2.R ) (by decide) ?_
              intro vg43 ig43 ag43 qg43 rg43 kg43 hg43
              have hGg43 := kG_call hL2 kg43 (by decide +kernel)
              obtain ⟨hg43, og43⟩ := hg43
              have fi2_6405 : ((0 : Int) ≤ (i2 6405).toInt) ∧ ((i2 6405).toInt ≤ 121) := hL2.I.1 6405
              have fig43_6405 : ((0 : Int) ≤ (ig43 6405).toInt) ∧ ((ig43 6405).toInt ≤ 121) := hGg43.I.1 6405
              have z44 : (((1 : Int) ≤ (i2 6405).toInt) ∧ ((ig43 6405).toInt = ((i2 6405).toInt - 1))) ∨ (((i2 6405).toInt ≤ 0) ∧ ((ig43 6405).toInt = (i2 6405).toInt)) := hg43
              refine ft_ifS mi_k21 (vg43 != 0) 174 170 [.ref 100] (by rfl) (fun c => ?_) (fun c => ?_)
              ·
                have c45 : vg43.toInt ≠ (0 : Int32).toInt := kd_ne c; clear c
                first | refine fo_goS mi_k21 fz21_171_1_175 [.int 0, .ref 100] (by rfl) ?_ | refine fo_goS mi_k21 fz21_174_1_175 [.int 0, .ref 100] (by rfl) ?_
                refine ko_callN mi_k21.1 (pc := 175) (ls := [(2, .int (l2_2 + 1)), (5, .int ((a2 102).getD l2_2.toNatClampNeg 0)), (4, .int ((a2 101).getD l2_2.toNatClampNeg 0)), (3, .int l3_2), (0, .ref 100), (1, .ref 73)]) (st := [.int 0, .ref 100]) (h := ks ig43 ag43 qg43 rg43) (i := (.invokevirtual 32, 3, 19, 0, 9, 0, 225)) (mi_k21.2 _ _ (by rfl)) (ft_invS mi_pq19 (by rfl)) (cy := mi_c19) mi_pq19 rfl (ke19_100 hGg43.I hGg43.R 0) (by decide) ?_
                intro ig46 ag46 qg46 rg46 kg46 hg46
                have hGg46 := kG_call hGg43 kg46 (by decide +kernel)
                obtain ⟨hg46, og46⟩ := hg46
                have fig46_6405 : ((0 : Int) ≤ (ig46 6405).toInt) ∧ ((ig46 6405).toInt ≤ 121) := hGg46.I.1 6405
                have z47 : (((ig43 6405).toInt ≤ 120) ∧ ((ig46 6405).toInt = ((ig43 6405).toInt + 1))) ∨ (((121 : Int) ≤ (ig43 6405).toInt) ∧ ((ig46 6405).toInt = (ig43 6405).toInt)) := hg46
                have s48 : (l3_2 + 1).toInt = l3_2.toInt + (1 : Int32).toInt := kd_add (ow32 p2_0 kow1) (ow38 c5 kow121 kow1)
                first | refine fo_goL mi_k21 fz21_6_3_9 [(3, .int (l3_2 + 1)), (2, .int (l2_2 + 1)), (5, .int ((a2 102).getD l2_2.toNatClampNeg 0)), (4, .int ((a2 101).getD l2_2.toNatClampNeg 0)), (0, .ref 100), (1, .ref 73)] [] (by rfl) ?_ | refine fo_goL mi_k21 fz21_114_3_9 [(3, .int (l3_2 + 1)), (2, .int (l2_2 + 1)), (5, .int ((a2 102).getD l2_2.toNatClampNeg 0)), (4, .int ((a2 101).getD l2_2.toNatClampNeg 0)), (0, .ref 100), (1, .ref 73)] [] (by rfl) ?_ | refine fo_goL mi_k21 fz21_141_3_9 [(3, .int (l3_2 + 1)), (2, .int (l2_2 + 1)), (5, .int ((a2 102).getD l2_2.toNatClampNeg 0)), (4, .int ((a2 101).getD l2_2.toNatClampNeg 0)), (0, .ref 100), (1, .ref 73)] [] (by rfl) ?_ | refine fo_goL mi_k21 fz21_153_3_9 [(3, .int (l3_2 + 1)), (2, .int (l2_2 + 1)), (5, .int ((a2 102).getD l2_2.toNatClampNeg 0)), (4, .int ((a2 101).getD l2_2.toNatClampNeg 0)), (0, .ref 100), (1, .ref 73)] [] (by rfl) ?_ | refine fo_goL mi_k21 fz21_159_3_9 [(3, .int (l3_2 + 1)), (2, .int (l2_2 + 1)), (5, .int ((a2 102).getD l2_2.toNatClampNeg 0)), (4, .int ((a2 101).getD l2_2.toNatClampNeg 0)), (0, .ref 100), (1, .ref 73)] [] (by rfl) ?_ | refine fo_goL mi_k21 fz21_178_3_9 [(3, .int (l3_2 + 1)), (2, .int (l2_2 + 1)), (5, .int ((a2 102).getD l2_2.toNatClampNeg 0)), (4, .int ((a2 101).getD l2_2.toNatClampNeg 0)), (0, .ref 100), (1, .ref 73)] [] (by rfl) ?_ | refine fo_goL mi_k21 fz21_190_3_9 [(3, .int (l3_2 + 1)), (2, .int (l2_2 + 1)), (5, .int ((a2 102).getD l2_2.toNatClampNeg 0)), (4, .int ((a2 101).getD l2_2.toNatClampNeg 0)), (0, .ref 100), (1, .ref 73)] [] (by rfl) ?_ | refine ft_goL mi_k21 3 9 [(3, .int (l3_2 + 1)), (2, .int (l2_2 + 1)), (5, .int ((a2 102).getD l2_2.toNatClampNeg 0)), (4, .int ((a2 101).getD l2_2.toNatClampNeg 0)), (0, .ref 100), (1, .ref 73)] [] (by rfl) ?_ | refine ko_steps mi_in21 3 _ (9, [(3, .int (l3_2 + 1)), (2, .int (l2_2 + 1)), (5, .int ((a2 102).getD l2_2.toNatClampNeg 0)), (4, .int ((a2 101).getD l2_2.toNatClampNeg 0)), (0, .ref 100), (1, .ref 73)], [], (0, 0), ks ig46 ag46 qg46 rg46) (by rfl) ?_
                refine ko_perm [(3, .int (l3_2 + 1)), (2, .int (l2_2 + 1)), (0, .ref 100), (1, .ref 73)] (List.forall_mem_cons.mpr ⟨(List.Mem.head _), (List.forall_mem_cons.mpr ⟨(List.Mem.tail _ (List.Mem.head _)), (List.forall_mem_cons.mpr ⟨(List.Mem.tail _ (List.Mem.tail _ (List.Mem.tail _ (List.Mem.tail _ (List.Mem.head _))))), (List.forall_mem_cons.mpr ⟨(List.Mem.tail _ (List.Mem.tail _ (List.Mem.tail _ (List.Mem.tail _ (List.Mem.tail _ (List.Mem.head _)))))), (fun _ h => absurd h List.not_mem_nil)⟩)⟩)⟩)⟩) ?_
                exact ih2 _ _ _ _ _ _ hGg46 (ow34 p2_0 s48 kow1) (lRun_not O2_0 (kj_left (ow31 c5 kow121) (ow40 s48 kow1)) ⟨(ow25 c8 kow0), (ow39 c11 efi2_6403)⟩ (kL_cast (hL2.fa 101 rfl) (ow57 w42)) og43 (by have k0_ : (0 : Int32).toInt = 0 := (by decide); have k6_ : (6 : Int32).toInt = 6 := (by decide); split <;> first | rfl | (exfalso; omega)) og46) (kj_meas (ow42 s48 kow1) (ow43 c5 kow121) hm2)
              ·
                have c49 : vg43.toInt = (0 : Int32).toInt := kd_neF c; clear c
                first | refine fo_goS mi_k21 fz21_170_2_175 [.int 1, .ref 100] (by rfl) ?_ | refine fo_goS mi_k21 fz21_167_2_175 [.int 1, .ref 100] (by rfl) ?_
                refine ko_callN mi_k21.1 (pc := 175) (ls := [(2, .int (l2_2 + 1)), (5, .int ((a2 102).getD l2_2.toNatClampNeg 0)), (4, .int ((a2 101).getD l2_2.toNatClampNeg 0)), (3, .int l3_2), (0, .ref 100), (1, .ref 73)]) (st := [.int 1, .ref 100]) (h := ks ig43 ag43 qg43 rg43) (i := (.invokevirtual 32, 3, 19, 0, 9, 0, 225)) (mi_k21.2 _ _ (by rfl)) (ft_invS mi_pq19 (by rfl)) (cy := mi_c19) mi_pq19 rfl (ke19_100 hGg43.I hGg43.R 1) (by decide) ?_
                intro ig50 ag50 qg50 rg50 kg50 hg50
                have hGg50 := kG_call hGg43 kg50 (by decide +kernel)
                obtain ⟨hg50, og50⟩ := hg50
                have fig50_6405 : ((0 : Int) ≤ (ig50 6405).toInt) ∧ ((ig50 6405).toInt ≤ 121) := hGg50.I.1 6405
                have z51 : (((ig43 6405).toInt ≤ 120) ∧ ((ig50 6405).toInt = ((ig43 6405).toInt + 1))) ∨ (((121 : Int) ≤ (ig43 6405).toInt) ∧ ((ig50 6405).toInt = (ig43 6405).toInt)) := hg50
                have s52 : (l3_2 + 1).toInt = l3_2.toInt + (1 : Int32).toInt := kd_add (ow32 p2_0 kow1) (ow38 c5 kow121 kow1)
                first | refine fo_goL mi_k21 fz21_6_3_9 [(3, .int (l3_2 + 1)), (2, .int (l2_2 + 1)), (5, .int ((a2 102).getD l2_2.toNatClampNeg 0)), (4, .int ((a2 101).getD l2_2.toNatClampNeg 0)), (0, .ref 100), (1, .ref 73)] [] (by rfl) ?_ | refine fo_goL mi_k21 fz21_114_3_9 [(3, .int (l3_2 + 1)), (2, .int (l2_2 + 1)), (5, .int ((a2 102).getD l2_2.toNatClampNeg 0)), (4, .int ((a2 101).getD l2_2.toNatClampNeg 0)), (0, .ref 100), (1, .ref 73)] [] (by rfl) ?_ | refine fo_goL mi_k21 fz21_141_3_9 [(3, .int (l3_2 + 1)), (2, .int (l2_2 + 1)), (5, .int ((a2 102).getD l2_2.toNatClampNeg 0)), (4, .int ((a2 101).getD l2_2.toNatClampNeg 0)), (0, .ref 100), (1, .ref 73)] [] (by rfl) ?_ | refine fo_goL mi_k21 fz21_153_3_9 [(3, .int (l3_2 + 1)), (2, .int (l2_2 + 1)), (5, .int ((a2 102).getD l2_2.toNatClampNeg 0)), (4, .int ((a2 101).getD l2_2.toNatClampNeg 0)), (0, .ref 100), (1, .ref 73)] [] (by rfl) ?_ | refine fo_goL mi_k21 fz21_159_3_9 [(3, .int (l3_2 + 1)), (2, .int (l2_2 + 1)), (5, .int ((a2 102).getD l2_2.toNatClampNeg 0)), (4, .int ((a2 101).getD l2_2.toNatClampNeg 0)), (0, .ref 100), (1, .ref 73)] [] (by rfl) ?_ | refine fo_goL mi_k21 fz21_178_3_9 [(3, .int (l3_2 + 1)), (2, .int (l2_2 + 1)), (5, .int ((a2 102).getD l2_2.toNatClampNeg 0)), (4, .int ((a2 101).getD l2_2.toNatClampNeg 0)), (0, .ref 100), (1, .ref 73)] [] (by rfl) ?_ | refine fo_goL mi_k21 fz21_190_3_9 [(3, .int (l3_2 + 1)), (2, .int (l2_2 + 1)), (5, .int ((a2 102).getD l2_2.toNatClampNeg 0)), (4, .int ((a2 101).getD l2_2.toNatClampNeg 0)), (0, .ref 100), (1, .ref 73)] [] (by rfl) ?_ | refine ft_goL mi_k21 3 9 [(3, .int (l3_2 + 1)), (2, .int (l2_2 + 1)), (5, .int ((a2 102).getD l2_2.toNatClampNeg 0)), (4, .int ((a2 101).getD l2_2.toNatClampNeg 0)), (0, .ref 100), (1, .ref 73)] [] (by rfl) ?_ | refine ko_steps mi_in21 3 _ (9, [(3, .int (l3_2 + 1)), (2, .int (l2_2 + 1)), (5, .int ((a2 102).getD l2_2.toNatClampNeg 0)), (4, .int ((a2 101).getD l2_2.toNatClampNeg 0)), (0, .ref 100), (1, .ref 73)], [], (0, 0), ks ig50 ag50 qg50 rg50) (by rfl) ?_
                refine ko_perm [(3, .int (l3_2 + 1)), (2, .int (l2_2 + 1)), (0, .ref 100), (1, .ref 73)] (List.forall_mem_cons.mpr ⟨(List.Mem.head _), (List.forall_mem_cons.mpr ⟨(List.Mem.tail _ (List.Mem.head _)), (List.forall_mem_cons.mpr ⟨(List.Mem.tail _ (List.Mem.tail _ (List.Mem.tail _ (List.Mem.tail _ (List.Mem.head _))))), (List.forall_mem_cons.mpr ⟨(List.Mem.tail _ (List.Mem.tail _ (List.Mem.tail _ (List.Mem.tail _ (List.Mem.tail _ (List.Mem.head _)))))), (fun _ h => absurd h List.not_mem_nil)⟩)⟩)⟩)⟩) ?_
                exact ih2 _ _ _ _ _ _ hGg50 (ow34 p2_0 s52 kow1) (lRun_not O2_0 (kj_left (ow31 c5 kow121) (ow40 s52 kow1)) ⟨(ow25 c8 kow0), (ow39 c11 efi2_6403)⟩ (kL_cast (hL2.fa 101 rfl) (ow57 w42)) og43 (by have k0_ : (0 : Int32).toInt = 0 := (by decide); have k6_ : (6 : Int32).toInt = 6 := (by decide); split <;> first | rfl | (exfalso; omega)) og50) (kj_meas (ow42 s52 kow1) (ow43 c5 kow121) hm2)
            by_cases w53 : ((a2 101).getD l2_2.toNatClampNeg 0).toInt = 126
            ·
              refine ft_swx mi_k21 (pc := 48) (v := 126) (t := 181) (kj_eq w53 (by decide) : ((a2 101).getD l2_2.toNatClampNeg 0) = 126) (by decide +kernel) ?_
              refine fo_goS mi_k21 fz21_181_2_183 [.ref 100, .ref 100] rfl ?_
              refine ko_callI mi_k21.1 (pc := 183) (ls := [(2, .int (l2_2 + 1)), (5, .int ((a2 102).getD l2_2.toNatClampNeg 0)), (4, .int ((a2 101).getD l2_2.toNatClampNeg 0)), (3, .int l3_2), (0, .ref 100), (1, .ref 73)]) (st := [.ref 100, .ref 100]) (h := ks i2 a2 q2 r2) (i := (.invokevirtual 36, 3, 20, 0, 9, 0, 226)) (mi_k21.2 _ _ (by rfl)) (ft_invS mi_pq20 (by rfl)) (cy := mi_c20) mi_pq20 rfl (ke20_100 hL2.I hL2.R ) (by decide) ?_
              intro vg54 ig54 ag54 qg54 rg54 kg54 hg54
              have hGg54 := kG_call hL2 kg54 (by decide +kernel)
              obtain ⟨hg54, og54⟩ := hg54
              refine fo_goS mi_k21 fz21_186_1_187 [.int (-vg54), .ref 100] rfl ?_
              refine ko_callN mi_k21.1 (pc := 187) (ls := [(2, .int (l2_2 + 1)), (5, .int ((a2 102).getD l2_2.toNatClampNeg 0)), (4, .int ((a2 101).getD l2_2.toNatClampNeg 0)), (3, .int l3_2), (0, .ref 100), (1, .ref 73)]) (st := [.int (-vg54), .ref 100]) (h := ks ig54 ag54 qg54 rg54) (i := (.invokevirtual 32, 3, 19, 0, 9, 0, 225)) (mi_k21.2 _ _ (by rfl)) (ft_invS mi_pq19 (by rfl)) (cy := mi_c19) mi_pq19 rfl (ke19_100 hGg54.I hGg54.R (-vg54)) (by decide) ?_
              intro ig56 ag56 qg56 rg56 kg56 hg56
              have hGg56 := kG_call hGg54 kg56 (by decide +kernel)
              obtain ⟨hg56, og56⟩ := hg56
              have s58 : (l3_2 + 1).toInt = l3_2.toInt + (1 : Int32).toInt := kd_add (ow32 p2_0 kow1) (ow38 c5 kow121 kow1)
              first | refine fo_goL mi_k21 fz21_6_3_9 [(3, .int (l3_2 + 1)), (2, .int (l2_2 + 1)), (5, .int ((a2 102).getD l2_2.toNatClampNeg 0)), (4, .int ((a2 101).getD l2_2.toNatClampNeg 0)), (0, .ref 100), (1, .ref 73)] [] (by rfl) ?_ | refine fo_goL mi_k21 fz21_114_3_9 [(3, .int (l3_2 + 1)), (2, .int (l2_2 + 1)), (5, .int ((a2 102).getD l2_2.toNatClampNeg 0)), (4, .int ((a2 101).getD l2_2.toNatClampNeg 0)), (0, .ref 100), (1, .ref 73)] [] (by rfl) ?_ | refine fo_goL mi_k21 fz21_141_3_9 [(3, .int (l3_2 + 1)), (2, .int (l2_2 + 1)), (5, .int ((a2 102).getD l2_2.toNatClampNeg 0)), (4, .int ((a2 101).getD l2_2.toNatClampNeg 0)), (0, .ref 100), (1, .ref 73)] [] (by rfl) ?_ | refine fo_goL mi_k21 fz21_153_3_9 [(3, .int (l3_2 + 1)), (2, .int (l2_2 + 1)), (5, .int ((a2 102).getD l2_2.toNatClampNeg 0)), (4, .int ((a2 101).getD l2_2.toNatClampNeg 0)), (0, .ref 100), (1, .ref 73)] [] (by rfl) ?_ | refine fo_goL mi_k21 fz21_159_3_9 [(3, .int (l3_2 + 1)), (2, .int (l2_2 + 1)), (5, .int ((a2 102).getD l2_2.toNatClampNeg 0)), (4, .int ((a2 101).getD l2_2.toNatClampNeg 0)), (0, .ref 100), (1, .ref 73)] [] (by rfl) ?_ | refine fo_goL mi_k21 fz21_178_3_9 [(3, .int (l3_2 + 1)), (2, .int (l2_2 + 1)), (5, .int ((a2 102).getD l2_2.toNatClampNeg 0)), (4, .int ((a2 101).getD l2_2.toNatClampNeg 0)), (0, .ref 100), (1, .ref 73)] [] (by rfl) ?_ | refine fo_goL mi_k21 fz21_190_3_9 [(3, .int (l3_2 + 1)), (2, .int (l2_2 + 1)), (5, .int ((a2 102).getD l2_2.toNatClampNeg 0)), (4, .int ((a2 101).getD l2_2.toNatClampNeg 0)), (0, .ref 100), (1, .ref 73)] [] (by rfl) ?_ | refine ft_goL mi_k21 3 9 [(3, .int (l3_2 + 1)), (2, .int (l2_2 + 1)), (5, .int ((a2 102).getD l2_2.toNatClampNeg 0)), (4, .int ((a2 101).getD l2_2.toNatClampNeg 0)), (0, .ref 100), (1, .ref 73)] [] (by rfl) ?_ | refine ko_steps mi_in21 3 _ (9, [(3, .int (l3_2 + 1)), (2, .int (l2_2 + 1)), (5, .int ((a2 102).getD l2_2.toNatClampNeg 0)), (4, .int ((a2 101).getD l2_2.toNatClampNeg 0)), (0, .ref 100), (1, .ref 73)], [], (0, 0), ks ig56 ag56 qg56 rg56) (by rfl) ?_
              refine ko_perm [(3, .int (l3_2 + 1)), (2, .int (l2_2 + 1)), (0, .ref 100), (1, .ref 73)] (List.forall_mem_cons.mpr ⟨(List.Mem.head _), (List.forall_mem_cons.mpr ⟨(List.Mem.tail _ (List.Mem.head _)), (List.forall_mem_cons.mpr ⟨(List.Mem.tail _ (List.Mem.tail _ (List.Mem.tail _ (List.Mem.tail _ (List.Mem.head _))))), (List.forall_mem_cons.mpr ⟨(List.Mem.tail _ (List.Mem.tail _ (List.Mem.tail _ (List.Mem.tail _ (List.Mem.tail _ (List.Mem.head _)))))), (fun _ h => absurd h List.not_mem_nil)⟩)⟩)⟩)⟩) ?_
              exact ih2 _ _ _ _ _ _ hGg56 (ow34 p2_0 s58 kow1) (lRun_neg O2_0 (kj_left (ow31 c5 kow121) (ow40 s58 kow1)) ⟨(ow25 c8 kow0), (ow39 c11 efi2_6403)⟩ (kL_cast (hL2.fa 101 rfl) (ow58 w53)) og54 rfl og56) (kj_meas (ow42 s58 kow1) (ow43 c5 kow121) hm2)
            refine ko_lsw (ls := [(2, .int (l2_2 + 1)), (5, .int ((a2 102).getD l2_2.toNatClampNeg 0)), (4, .int ((a2 101).getD l2_2.toNatClampNeg 0)), (3, .int l3_2), (0, .ref 100), (1, .ref 73)]) (r := []) (h := ks i2 a2 q2 r2) mi_in21 (v := ((a2 101).getD l2_2.toNatClampNeg 0)) (i := (.lookupswitch 145 #[(0, 60), (1, 69), (2, 96), (3, 101), (33, 114), (126, 133)], 60, 0, 0, 0, 0, 0)) (by rfl) rfl (by simp only [Op.lookupswitch.offset, if_neg (Ne.symm w13), if_neg (Ne.symm w17), if_neg (Ne.symm w31), if_neg (Ne.symm w35), if_neg (Ne.symm w42), if_neg (Ne.symm w53)] <;> rfl) 193 (by rfl) ?_
            refine fo_goS mi_k21 fz21_193_1_194 [.ref 100] rfl ?_
            refine ko_callI mi_k21.1 (pc := 194) (ls := [(2, .int (l2_2 + 1)), (5, .int ((a2 102).getD l2_2.toNatClampNeg 0)), (4, .int ((a2 101).getD l2_2.toNatClampNeg 0)), (3, .int l3_2), (0, .ref 100), (1, .ref 73)]) (st := [.ref 100]) (h := ks i2 a2 q2 r2) (i := (.invokevirtual 36, 3, 20, 0, 9, 0, 226)) (mi_k21.2 _ _ (by rfl)) (ft_invS mi_pq20 (by rfl)) (cy := mi_c20) mi_pq20 rfl (ke20_100 hL2.I hL2.R ) (by decide) ?_
            intro vg59 ig59 ag59 qg59 rg59 kg59 hg59
            have hGg59 := kG_call hL2 kg59 (by decide +kernel)
            obtain ⟨hg59, og59⟩ := hg59
            refine fo_goL mi_k21 fz21_197_4_203 [(6, .int vg59), (2, .int (l2_2 + 1)), (5, .int ((a2 102).getD l2_2.toNatClampNeg 0)), (4, .int ((a2 101).getD l2_2.toNatClampNeg 0)), (3, .int l3_2), (0, .ref 100), (1, .ref 73)] [.ref 100, .int ((a2 101).getD l2_2.toNatClampNeg 0), .ref 100] rfl ?_
            refine ko_callI mi_k21.1 (pc := 203) (ls := [(6, .int vg59), (2, .int (l2_2 + 1)), (5, .int ((a2 102).getD l2_2.toNatClampNeg 0)), (4, .int ((a2 101).getD l2_2.toNatClampNeg 0)), (3, .int l3_2), (0, .ref 100), (1, .ref 73)]) (st := [.ref 100, .int ((a2 101).getD l2_2.toNatClampNeg 0), .ref 100]) (h := ks ig59 ag59 qg59 rg59) (i := (.invokevirtual 36, 3, 20, 0, 9, 0, 226)) (mi_k21.2 _ _ (by rfl)) (ft_invS mi_pq20 (by rfl)) (cy := mi_c20) mi_pq20 rfl (ke20_100 hGg59.I hGg59.R ) (by decide) ?_
            intro vg61 ig61 ag61 qg61 rg61 kg61 hg61
            have hGg61 := kG_call hGg59 kg61 (by decide +kernel)
            obtain ⟨hg61, og61⟩ := hg61
            refine fo_goS mi_k21 fz21_206_1_208 [.int vg59, .int vg61, .int ((a2 101).getD l2_2.toNatClampNeg 0), .ref 100] rfl ?_
            refine ko_callPI mi_k21.1 (pc := 208) (ls := [(6, .int vg59), (2, .int (l2_2 + 1)), (5, .int ((a2 102).getD l2_2.toNatClampNeg 0)), (4, .int ((a2 101).getD l2_2.toNatClampNeg 0)), (3, .int l3_2), (0, .ref 100), (1, .ref 73)]) (st := [.int vg59, .int vg61, .int ((a2 101).getD l2_2.toNatClampNeg 0), .ref 100]) (h := ks ig61 ag61 qg61 rg61) (i := (.invokestatic 40, 3, 22, 0, 9, 0, 227)) (mi_k21.2 _ _ (by rfl)) (ft_invS mi_pq22 (by rfl)) (cy := mi_c22) mi_pq22 rfl (ke22 hGg61.I hGg61.R ((a2 101).getD l2_2.toNatClampNeg 0) vg61 vg59) (by decide) ?_
            intro vg63 hg63
            obtain ⟨hg63, og63⟩ := hg63
            have q64 : vg63 = cJoin ((a2 101).getD l2_2.toNatClampNeg 0) vg61 vg59 := og63
            refine ko_callN mi_k21.1 (pc := 211) (ls := [(6, .int vg59), (2, .int (l2_2 + 1)), (5, .int ((a2 102).getD l2_2.toNatClampNeg 0)), (4, .int ((a2 101).getD l2_2.toNatClampNeg 0)), (3, .int l3_2), (0, .ref 100), (1, .ref 73)]) (st := [.int vg63, .ref 100]) (h := ks ig61 ag61 qg61 rg61) (i := (.invokevirtual 32, 3, 19, 0, 9, 0, 225)) (mi_k21.2 _ _ (by rfl)) (ft_invS mi_pq19 (by rfl)) (cy := mi_c19) mi_pq19 rfl (ke19_100 hGg61.I hGg61.R vg63) (by decide) ?_
            intro ig65 ag65 qg65 rg65 kg65 hg65
            have hGg65 := kG_call hGg61 kg65 (by decide +kernel)
            obtain ⟨hg65, og65⟩ := hg65
            have s67 : (l3_2 + 1).toInt = l3_2.toInt + (1 : Int32).toInt := kd_add (ow32 p2_0 kow1) (ow38 c5 kow121 kow1)
            first | refine fo_goL mi_k21 fz21_7_2_9 [(3, .int (l3_2 + 1)), (6, .int vg59), (2, .int (l2_2 + 1)), (5, .int ((a2 102).getD l2_2.toNatClampNeg 0)), (4, .int ((a2 101).getD l2_2.toNatClampNeg 0)), (0, .ref 100), (1, .ref 73)] [] (by rfl) ?_ | refine fo_goL mi_k21 fz21_214_2_9 [(3, .int (l3_2 + 1)), (6, .int vg59), (2, .int (l2_2 + 1)), (5, .int ((a2 102).getD l2_2.toNatClampNeg 0)), (4, .int ((a2 101).getD l2_2.toNatClampNeg 0)), (0, .ref 100), (1, .ref 73)] [] (by rfl) ?_
            refine ko_perm [(3, .int (l3_2 + 1)), (2, .int (l2_2 + 1)), (0, .ref 100), (1, .ref 73)] (List.forall_mem_cons.mpr ⟨(List.Mem.head _), (List.forall_mem_cons.mpr ⟨(List.Mem.tail _ (List.Mem.tail _ (List.Mem.head _))), (List.forall_mem_cons.mpr ⟨(List.Mem.tail _ (List.Mem.tail _ (List.Mem.tail _ (List.Mem.tail _ (List.Mem.tail _ (List.Mem.head _)))))), (List.forall_mem_cons.mpr ⟨(List.Mem.tail _ (List.Mem.tail _ (List.Mem.tail _ (List.Mem.tail _ (List.Mem.tail _ (List.Mem.tail _ (List.Mem.head _))))))), (fun _ h => absurd h List.not_mem_nil)⟩)⟩)⟩)⟩) ?_
            exact ih2 _ _ _ _ _ _ hGg65 (ow34 p2_0 s67 kow1) (lRun_bin O2_0 (kj_left (ow31 c5 kow121) (ow40 s67 kow1)) ⟨(ow25 c8 kow0), (ow39 c11 efi2_6403)⟩ (kL_castn (hL2.fa 101 rfl) (ow60 w13)) (kL_castn (hL2.fa 101 rfl) (ow61 w13 w17)) (kL_castn (hL2.fa 101 rfl) (ow62 w13 w17 w31)) (kL_castn (hL2.fa 101 rfl) (ow63 w13 w17 w31 w35)) (kL_castn (hL2.fa 101 rfl) (ow64 w42)) (kL_castn (hL2.fa 101 rfl) (ow65 w53)) og59 og61 (og63.trans (congrArg (fun z : List Int32 => cJoin (z.getD l2_2.toNatClampNeg 0) _ _) (hL2.fa 101 rfl))) og65) (kj_meas (ow42 s67 kow1) (ow43 c5 kow121) hm2)
  exact lp2 _ _ _ _ _ _ _ (kG_self _ hJ1.I hJ1.R) (ow9 kow0) (by rw [kow0]; rfl) (Nat.lt_succ_self _)
noncomputable def yw31_50 : kW := ([645, 3781, 6405], [13, 62, 73, 103], [], [])
set_option maxRecDepth 100000 in
theorem ke31_50 {i : Nat → Int32} {a : Nat → List Int32} {q : Nat → List Int64} {r : Nat → Nat} (hI : kI i a q) (hr : kr r) (x1 : Int32) (x2 : Int32) (hp0 : ((0 : Int) ≤ x1.toInt) ∧ (x1.toInt ≤ 7)) : km 5 31 [.ref 50, .int x1, .int x2] (ks i a q r) (kVI yw31_50 i a q r (fun v i1 a1 q1 r1 => (True) ∧ v = cBuyV (i (64 * r 1)) (a (r 1 + 1)) (a (r 1 + 2)) (a (r 1 + 3)) (i (64 * r 1 + 3)) ((a 52).getD x1.toNatClampNeg 0) x2 ((a 53).getD x1.toNatClampNeg 0) (i 3209) ((a 55).getD x1.toNatClampNeg 0) (i 3208))) := by
  have hG := kG_self yw31_50 hI hr
  refine km_ofI (q := (mi_h31, mi_c31)) rfl (by decide) (Nat.le_of_ble_eq_true rfl) ?_
  intro P hP
  refine fo_goL mi_k31 fz31_0_4_6 [(0, .ref 50), (1, .int x1), (2, .int x2)] [.int x1, .ref 52, .int 5] rfl ?_
  refine ko_iald3 mi_k31.1 (n := 8) (c := 8) (ax := (0, 0, 0, 0, 0)) (mi_k31.2 _ _ (by rfl)) (by rfl) (ksG52 _ _ _ _) (hG.I.2.1 52) rfl (ow4 hp0.1) (ow7 hp0.2) ?_
  have b1 : ((-2147483648 : Int) ≤ ((a 52).getD x1.toNatClampNeg 0).toInt) ∧ (((a 52).getD x1.toNatClampNeg 0).toInt ≤ 2147483647) := kd_bd ((a 52).getD x1.toNatClampNeg 0)
  refine fo_goS mi_k31 fz31_7_4_13 [.int x1, .ref 53, .int (5 * ((a 52).getD x1.toNatClampNeg 0))] rfl ?_
  refine ko_iald3 mi_k31.1 (n := 8) (c := 8) (ax := (0, 0, 0, 0, 0)) (mi_k31.2 _ _ (by rfl)) (by rfl) (ksG53 _ _ _ _) (hG.I.2.1 53) rfl (ow4 hp0.1) (ow7 hp0.2) ?_
  have b2 : ((-2147483648 : Int) ≤ (5 * ((a 52).getD x1.toNatClampNeg 0)).toInt) ∧ ((5 * ((a 52).getD x1.toNatClampNeg 0)).toInt ≤ 2147483647) := kd_bd (5 * ((a 52).getD x1.toNatClampNeg 0))
  have b3 : ((-2147483648 : Int) ≤ ((a 53).getD x1.toNatClampNeg 0).toInt) ∧ (((a 53).getD x1.toNatClampNeg 0).toInt ≤ 2147483647) := kd_bd ((a 53).getD x1.toNatClampNeg 0)
  refine fo_goS mi_k31 fz31_14_5_21 [.int x1, .ref 55, .int 2, .int ((5 * ((a 52).getD x1.toNatClampNeg 0)) + ((a 53).getD x1.toNatClampNeg 0))] rfl ?_
  refine ko_iald3 mi_k31.1 (n := 8) (c := 8) (ax := (0, 0, 0, 0, 0)) (mi_k31.2 _ _ (by rfl)) (by rfl) (ksG55 _ _ _ _) (hG.I.2.1 55) rfl (ow4 hp0.1) (ow7 hp0.2) ?_
  have b4 : ((-2147483648 : Int) ≤ ((a 55).getD x1.toNatClampNeg 0).toInt) ∧ (((a 55).getD x1.toNatClampNeg 0).toInt ≤ 2147483647) := kd_bd ((a 55).getD x1.toNatClampNeg 0)
  have b5 : ((-2147483648 : Int) ≤ ((5 * ((a 52).getD x1.toNatClampNeg 0)) + ((a 53).getD x1.toNatClampNeg 0)).toInt) ∧ (((5 * ((a 52).getD x1.toNatClampNeg 0)) + ((a 53).getD x1.toNatClampNeg 0)).toInt ≤ 2147483647) := kd_bd ((5 * ((a 52).getD x1.toNatClampNeg 0)) + ((a 53).getD x1.toNatClampNeg 0))
  have b6 : ((-2147483648 : Int) ≤ (2 * ((a 55).getD x1.toNatClampNeg 0)).toInt) ∧ ((2 * ((a 55).getD x1.toNatClampNeg 0)).toInt ≤ 2147483647) := kd_bd (2 * ((a 55).getD x1.toNatClampNeg 0))
  refine fo_goL mi_k31 fz31_22_5_29 [(3, .int (((5 * ((a 52).getD x1.toNatClampNeg 0)) + ((a 53).getD x1.toNatClampNeg 0)) - (2 * ((a 55).getD x1.toNatClampNeg 0)))), (0, .ref 50), (1, .int x1), (2, .int x2)] [.ref (r 1)] rfl ?_
  rcases hG.R.2 with eRr_1 | eRr_1 | eRr_1
  ·
    have eRr_1 : r 1 = 59 := eRr_1
    refine ko_eq (x1 := (29, [(3, .int (((5 * ((a 52).getD x1.toNatClampNeg 0)) + ((a 53).getD x1.toNatClampNeg 0)) - (2 * ((a 55).getD x1.toNatClampNeg 0)))), (0, .ref 50), (1, .int x1), (2, .int x2)], [.ref 59], (0, 0), ks i a q r)) (by rw [eRr_1]) ?_
    have fi_3776 : ((0 : Int) ≤ (i 3776).toInt) ∧ ((i 3776).toInt ≤ 1) := hG.I.1 3776
    refine fo_goS mi_k31 fz31_29_1_32 [.int (i 3776)] rfl ?_
    refine ft_ifS mi_k31 ((i 3776) == 0) 110 35 [] (by rfl) (fun c => ?_) (fun c => ?_)
    ·
      have c7 : (i 3776).toInt = (0 : Int32).toInt := kd_eq c; clear c
      refine fo_goS mi_k31 fz31_110_3_114 [.int (((5 * ((a 52).getD x1.toNatClampNeg 0)) + ((a 53).getD x1.toNatClampNeg 0)) - (2 * ((a 55).getD x1.toNatClampNeg 0))), .int 99, .int 0] rfl ?_
      have m9 : (((bif decide ((((5 * ((a 52).getD x1.toNatClampNeg 0)) + ((a 53).getD x1.toNatClampNeg 0)) - (2 * ((a 55).getD x1.toNatClampNeg 0))) < 99) then (((5 * ((a 52).getD x1.toNatClampNeg 0)) + ((a 53).getD x1.toNatClampNeg 0)) - (2 * ((a 55).getD x1.toNatClampNeg 0))) else 99).toInt ≤ (99 : Int32).toInt) ∧ ((bif decide ((((5 * ((a 52).getD x1.toNatClampNeg 0)) + ((a 53).getD x1.toNatClampNeg 0)) - (2 * ((a 55).getD x1.toNatClampNeg 0))) < 99) then (((5 * ((a 52).getD x1.toNatClampNeg 0)) + ((a 53).getD x1.toNatClampNeg 0)) - (2 * ((a 55).getD x1.toNatClampNeg 0))) else 99).toInt ≤ (((5 * ((a 52).getD x1.toNatClampNeg 0)) + ((a 53).getD x1.toNatClampNeg 0)) - (2 * ((a 55).getD x1.toNatClampNeg 0))).toInt)) ∧ ((bif decide ((((5 * ((a 52).getD x1.toNatClampNeg 0)) + ((a 53).getD x1.toNatClampNeg 0)) - (2 * ((a 55).getD x1.toNatClampNeg 0))) < 99) then (((5 * ((a 52).getD x1.toNatClampNeg 0)) + ((a 53).getD x1.toNatClampNeg 0)) - (2 * ((a 55).getD x1.toNatClampNeg 0))) else 99).toInt = (99 : Int32).toInt ∨ (bif decide ((((5 * ((a 52).getD x1.toNatClampNeg 0)) + ((a 53).getD x1.toNatClampNeg 0)) - (2 * ((a 55).getD x1.toNatClampNeg 0))) < 99) then (((5 * ((a 52).getD x1.toNatClampNeg 0)) + ((a 53).getD x1.toNatClampNeg 0)) - (2 * ((a 55).getD x1.toNatClampNeg 0))) else 99).toInt = (((5 * ((a 52).getD x1.toNatClampNeg 0)) + ((a 53).getD x1.toNatClampNeg 0)) - (2 * ((a 55).getD x1.toNatClampNeg 0))).toInt) := kd_min
      refine ft_goS mi_k31 1 117 [.int (bif decide ((((5 * ((a 52).getD x1.toNatClampNeg 0)) + ((a 53).getD x1.toNatClampNeg 0)) - (2 * ((a 55).getD x1.toNatClampNeg 0))) < 99) then (((5 * ((a 52).getD x1.toNatClampNeg 0)) + ((a 53).getD x1.toNatClampNeg 0)) - (2 * ((a 55).getD x1.toNatClampNeg 0))) else 99), .int 0] (by rfl) ?_
      generalize hm8 : (bif decide ((((5 * ((a 52).getD x1.toNatClampNeg 0)) + ((a 53).getD x1.toNatClampNeg 0)) - (2 * ((a 55).getD x1.toNatClampNeg 0))) < 99) then (((5 * ((a 52).getD x1.toNatClampNeg 0)) + ((a 53).getD x1.toNatClampNeg 0)) - (2 * ((a 55).getD x1.toNatClampNeg 0))) else 99) = m8 at m9 ⊢
      have qm8 := hm8.symm
      have m11 : (((0 : Int32).toInt ≤ (bif decide (0 < m8) then m8 else 0).toInt) ∧ (m8.toInt ≤ (bif decide (0 < m8) then m8 else 0).toInt)) ∧ ((bif decide (0 < m8) then m8 else 0).toInt = (0 : Int32).toInt ∨ (bif decide (0 < m8) then m8 else 0).toInt = m8.toInt) := kd_max
      refine ft_goS mi_k31 1 120 [.int (bif decide (0 < m8) then m8 else 0)] (by rfl) ?_
      generalize hm10 : (bif decide (0 < m8) then m8 else 0) = m10 at m11 ⊢
      have qm10 := hm10.symm
      exact ft_ret mi_k31 (by rfl) (hP m10 _ _ _ _ hG ⟨trivial, (show m10 = cBuyV (i (64 * r 1)) (a (r 1 + 1)) (a (r 1 + 2)) (a (r 1 + 3)) (i (64 * r 1 + 3)) ((a 52).getD x1.toNatClampNeg 0) x2 ((a 53).getD x1.toNatClampNeg 0) (i 3209) ((a 55).getD x1.toNatClampNeg 0) (i 3208) from (by rw [eRr_1]; unfold cBuyV; rw [if_pos (ow8 c7 fi_3776.1 kow0)]; first | rfl | (simp only [qm10, qm8, sMn, sMx]; rfl)))⟩)
    ·
      have c12 : (i 3776).toInt ≠ (0 : Int32).toInt := kd_eqF c; clear c
      refine fo_goS mi_k31 fz31_35_6_45 [.int x1, .ref 52, .int 0, .ref 73] rfl ?_
      refine ko_iald3 mi_k31.1 (n := 8) (c := 8) (ax := (0, 0, 0, 0, 0)) (mi_k31.2 _ _ (by rfl)) (by rfl) (ksG52 _ _ _ _) (hG.I.2.1 52) rfl (ow4 hp0.1) (ow7 hp0.2) ?_
      refine ko_iast3 mi_k31.1 (n := 6) (c := 6) (ax := (0, 0, 0, 0, 0)) (mi_k31.2 _ _ (by rfl)) (by rfl) (ksG73 _ _ _ _) (ksA73 _ _ _ _) (hG.I.2.1 73) rfl (ow9 kow0) (ow10 kow0) ?_
      intro a13 ea13 fa13
      have hJ13 := kG_a3 hG 73 rfl ea13 fa13 (kd_bd _)
      refine fo_goS mi_k31 fz31_47_4_53 [.int x2, .int 1, .ref 73] rfl ?_
      refine ko_iast3 mi_k31.1 (n := 6) (c := 6) (ax := (0, 0, 0, 0, 0)) (mi_k31.2 _ _ (by rfl)) (by rfl) (ksG73 _ _ _ _) (ksA73 _ _ _ _) (hJ13.I.2.1 73) rfl (ow11 kow1) (ow12 kow1) ?_
      intro a14 ea14 fa14
      have hJ14 := kG_a3 hJ13 73 rfl ea14 fa14 (kd_bd _)
      refine fo_goS mi_k31 fz31_54_6_64 [.int x1, .ref 53, .int 2, .ref 73] rfl ?_
      refine ko_iald3 mi_k31.1 (n := 8) (c := 8) (ax := (0, 0, 0, 0, 0)) (mi_k31.2 _ _ (by rfl)) (by rfl) (ksG53 _ _ _ _) (hJ14.I.2.1 53) rfl (ow4 hp0.1) (ow7 hp0.2) ?_
      refine ko_iast3 mi_k31.1 (n := 6) (c := 6) (ax := (0, 0, 0, 0, 0)) (mi_k31.2 _ _ (by rfl)) (by rfl) (ksG73 _ _ _ _) (ksA73 _ _ _ _) (hJ14.I.2.1 73) rfl (ow13 kow2) (ow14 kow2) ?_
      intro a15 ea15 fa15
      have hJ15 := kG_a3 hJ14 73 rfl ea15 fa15 (kd_bd _)
      refine fo_goS mi_k31 fz31_66_5_75 [.int (i 3209), .int 3, .ref 73] rfl ?_
      refine ko_iast3 mi_k31.1 (n := 6) (c := 6) (ax := (0, 0, 0, 0, 0)) (mi_k31.2 _ _ (by rfl)) (by rfl) (ksG73 _ _ _ _) (ksA73 _ _ _ _) (hJ15.I.2.1 73) rfl (ow15 kow3) (ow16 kow3) ?_
      intro a16 ea16 fa16
      have hJ16 := kG_a3 hJ15 73 rfl ea16 fa16 (kd_bd _)
      refine fo_goS mi_k31 fz31_76_6_86 [.int x1, .ref 55, .int 4, .ref 73] rfl ?_
      refine ko_iald3 mi_k31.1 (n := 8) (c := 8) (ax := (0, 0, 0, 0, 0)) (mi_k31.2 _ _ (by rfl)) (by rfl) (ksG55 _ _ _ _) (hJ16.I.2.1 55) rfl (ow4 hp0.1) (ow7 hp0.2) ?_
      refine ko_iast3 mi_k31.1 (n := 6) (c := 6) (ax := (0, 0, 0, 0, 0)) (mi_k31.2 _ _ (by rfl)) (by rfl) (ksG73 _ _ _ _) (ksA73 _ _ _ _) (hJ16.I.2.1 73) rfl (ow17 kow4) (ow18 kow4) ?_
      intro a17 ea17 fa17
      have hJ17 := kG_a3 hJ16 73 rfl ea17 fa17 (kd_bd _)
      refine fo_goS mi_k31 fz31_88_5_97 [.int (i 3208), .int 5, .ref 73] rfl ?_
      refine ko_iast3 mi_k31.1 (n := 6) (c := 6) (ax := (0, 0, 0, 0, 0)) (mi_k31.2 _ _ (by rfl)) (by rfl) (ksG73 _ _ _ _) (ksA73 _ _ _ _) (hJ17.I.2.1 73) rfl (ow19 kow5) (ow20 kow5) ?_
      intro a18 ea18 fa18
      have hJ18 := kG_a3 hJ17 73 rfl ea18 fa18 (kd_bd _)
      refine fo_goS mi_k31 fz31_98_2_102 [.ref (r 1)] rfl ?_
      refine ko_eq (x1 := (102, [(3, .int (((5 * ((a 52).getD x1.toNatClampNeg 0)) + ((a 53).getD x1.toNatClampNeg 0)) - (2 * ((a 55).getD x1.toNatClampNeg 0)))), (0, .ref 50), (1, .int x1), (2, .int x2)], [.ref 59], (0, 0), ks i a18 q r)) (by rw [eRr_1]) ?_
      have qn19 : a18 73 = [((a 52).getD x1.toNatClampNeg 0), x2, ((a14 53).getD x1.toNatClampNeg 0), (i 3209), ((a16 55).getD x1.toNatClampNeg 0), (i 3208)] := by rw [ea18, ea17, ea16, ea15, ea14, ea13]; exact kNames ((congrArg List.length (rfl)).trans (hG.I.2.1 73))
      refine fo_goS mi_k31 fz31_102_2_106 [.ref 73, .ref 59] rfl ?_
      refine ko_callI mi_k31.1 (pc := 106) (ls := [(3, .int (((5 * ((a 52).getD x1.toNatClampNeg 0)) + ((a 53).getD x1.toNatClampNeg 0)) - (2 * ((a 55).getD x1.toNatClampNeg 0)))), (0, .ref 50), (1, .int x1), (2, .int x2)]) (st := [.ref 73, .ref 59]) (h := ks i a18 q r) (i := (.invokevirtual 126, 3, 21, 0, 9, 0, 224)) (mi_k31.2 _ _ (by rfl)) (ft_invS mi_pq21 (by rfl)) (cy := mi_c21) mi_pq21 rfl (ke21_59_73 hJ18.I hJ18.R ) (by decide) ?_
      intro vg20 ig20 ag20 qg20 rg20 kg20 hg20
      have hGg20 := kG_call hJ18 kg20 (by decide +kernel)
      have eRrg20_1 : rg20 1 = 59 := (kg20.fr 1 rfl).trans eRr_1
      obtain ⟨hg20, og20⟩ := hg20
      have q21 : vg20 = lRun (a18 60) (a18 61) (a18 73) (i 3779) 121 0 (a18 62, 0) := og20
      first | refine fo_goS mi_k31 fz31_32_4_114 [.int vg20, .int 99, .int 0] (by rfl) ?_ | refine fo_goL mi_k31 fz31_109_4_114 [(3, .int vg20), (0, .ref 50), (1, .int x1), (2, .int x2)] [.int vg20, .int 99, .int 0] (by rfl) ?_
      have m23 : (((bif decide (vg20 < 99) then vg20 else 99).toInt ≤ (99 : Int32).toInt) ∧ ((bif decide (vg20 < 99) then vg20 else 99).toInt ≤ vg20.toInt)) ∧ ((bif decide (vg20 < 99) then vg20 else 99).toInt = (99 : Int32).toInt ∨ (bif decide (vg20 < 99) then vg20 else 99).toInt = vg20.toInt) := kd_min
      refine ft_goS mi_k31 1 117 [.int (bif decide (vg20 < 99) then vg20 else 99), .int 0] (by rfl) ?_
      generalize hm22 : (bif decide (vg20 < 99) then vg20 else 99) = m22 at m23 ⊢
      have qm22 := hm22.symm
      have m25 : (((0 : Int32).toInt ≤ (bif decide (0 < m22) then m22 else 0).toInt) ∧ (m22.toInt ≤ (bif decide (0 < m22) then m22 else 0).toInt)) ∧ ((bif decide (0 < m22) then m22 else 0).toInt = (0 : Int32).toInt ∨ (bif decide (0 < m22) then m22 else 0).toInt = m22.toInt) := kd_max
      refine ft_goS mi_k31 1 120 [.int (bif decide (0 < m22) then m22 else 0)] (by rfl) ?_
      generalize hm24 : (bif decide (0 < m22) then m22 else 0) = m24 at m25 ⊢
      have qm24 := hm24.symm
      exact ft_ret mi_k31 (by rfl) (hP m24 _ _ _ _ hGg20 ⟨trivial, (show m24 = cBuyV (i (64 * r 1)) (a (r 1 + 1)) (a (r 1 + 2)) (a (r 1 + 3)) (i (64 * r 1 + 3)) ((a 52).getD x1.toNatClampNeg 0) x2 ((a 53).getD x1.toNatClampNeg 0) (i 3209) ((a 55).getD x1.toNatClampNeg 0) (i 3208) from (by rw [eRr_1]; unfold cBuyV; rw [if_neg (ow66 c12 fi_3776.1 kow0)]; first | rfl | (simp only [qm24, qm22, q21, fa18 60 (by decide), fa18 61 (by decide), qn19, fa18 62 (by decide), fa17 62 (by decide), fa16 62 (by decide), fa15 62 (by decide), fa14 62 (by decide), fa13 62 (by decide), fa14 53 (by decide), fa16 55 (by decide), fa15 55 (by decide), fa14 55 (by decide), fa13 55 (by decide), fa13 53 (by decide), fa17 61 (by decide), fa16 61 (by decide), fa15 61 (by decide), fa14 61 (by decide), fa13 61 (by decide), fa17 60 (by decide), fa16 60 (by decide), fa15 60 (by decide), fa14 60 (by decide), fa13 60 (by decide), sMn, sMx]; rfl)))⟩)
  ·
    have eRr_1 : r 1 = 10 := eRr_1
    refine ko_eq (x1 := (29, [(3, .int (((5 * ((a 52).getD x1.toNatClampNeg 0)) + ((a 53).getD x1.toNatClampNeg 0)) - (2 * ((a 55).getD x1.toNatClampNeg 0)))), (0, .ref 50), (1, .int x1), (2, .int x2)], [.ref 10], (0, 0), ks i a q r)) (by rw [eRr_1]) ?_
    have fi_640 : ((0 : Int) ≤ (i 640).toInt) ∧ ((i 640).toInt ≤ 1) := hG.I.1 640
    refine fo_goS mi_k31 fz31_29_1_32 [.int (i 640)] rfl ?_
    refine ft_ifS mi_k31 ((i 640) == 0) 110 35 [] (by rfl) (fun c => ?_) (fun c => ?_)
    ·
      have c26 : (i 640).toInt = (0 : Int32).toInt := kd_eq c; clear c
      refine fo_goS mi_k31 fz31_110_3_114 [.int (((5 * ((a 52).getD x1.toNatClampNeg 0)) + ((a 53).getD x1.toNatClampNeg 0)) - (2 * ((a 55).getD x1.toNatClampNeg 0))), .int 99, .int 0] rfl ?_
      have m28 : (((bif decide ((((5 * ((a 52).getD x1.toNatClampNeg 0)) + ((a 53).getD x1.toNatClampNeg 0)) - (2 * ((a 55).getD x1.toNatClampNeg 0))) < 99) then (((5 * ((a 52).getD x1.toNatClampNeg 0)) + ((a 53).getD x1.toNatClampNeg 0)) - (2 * ((a 55).getD x1.toNatClampNeg 0))) else 99).toInt ≤ (99 : Int32).toInt) ∧ ((bif decide ((((5 * ((a 52).getD x1.toNatClampNeg 0)) + ((a 53).getD x1.toNatClampNeg 0)) - (2 * ((a 55).getD x1.toNatClampNeg 0))) < 99) then (((5 * ((a 52).getD x1.toNatClampNeg 0)) + ((a 53).getD x1.toNatClampNeg 0)) - (2 * ((a 55).getD x1.toNatClampNeg 0))) else 99).toInt ≤ (((5 * ((a 52).getD x1.toNatClampNeg 0)) + ((a 53).getD x1.toNatClampNeg 0)) - (2 * ((a 55).getD x1.toNatClampNeg 0))).toInt)) ∧ ((bif decide ((((5 * ((a 52).getD x1.toNatClampNeg 0)) + ((a 53).getD x1.toNatClampNeg 0)) - (2 * ((a 55).getD x1.toNatClampNeg 0))) < 99) then (((5 * ((a 52).getD x1.toNatClampNeg 0)) + ((a 53).getD x1.toNatClampNeg 0)) - (2 * ((a 55).getD x1.toNatClampNeg 0))) else 99).toInt = (99 : Int32).toInt ∨ (bif decide ((((5 * ((a 52).getD x1.toNatClampNeg 0)) + ((a 53).getD x1.toNatClampNeg 0)) - (2 * ((a 55).getD x1.toNatClampNeg 0))) < 99) then (((5 * ((a 52).getD x1.toNatClampNeg 0)) + ((a 53).getD x1.toNatClampNeg 0)) - (2 * ((a 55).getD x1.toNatClampNeg 0))) else 99).toInt = (((5 * ((a 52).getD x1.toNatClampNeg 0)) + ((a 53).getD x1.toNatClampNeg 0)) - (2 * ((a 55).getD x1.toNatClampNeg 0))).toInt) := kd_min
      refine ft_goS mi_k31 1 117 [.int (bif decide ((((5 * ((a 52).getD x1.toNatClampNeg 0)) + ((a 53).getD x1.toNatClampNeg 0)) - (2 * ((a 55).getD x1.toNatClampNeg 0))) < 99) then (((5 * ((a 52).getD x1.toNatClampNeg 0)) + ((a 53).getD x1.toNatClampNeg 0)) - (2 * ((a 55).getD x1.toNatClampNeg 0))) else 99), .int 0] (by rfl) ?_
      generalize hm27 : (bif decide ((((5 * ((a 52).getD x1.toNatClampNeg 0)) + ((a 53).getD x1.toNatClampNeg 0)) - (2 * ((a 55).getD x1.toNatClampNeg 0))) < 99) then (((5 * ((a 52).getD x1.toNatClampNeg 0)) + ((a 53).getD x1.toNatClampNeg 0)) - (2 * ((a 55).getD x1.toNatClampNeg 0))) else 99) = m27 at m28 ⊢
      have qm27 := hm27.symm
      have m30 : (((0 : Int32).toInt ≤ (bif decide (0 < m27) then m27 else 0).toInt) ∧ (m27.toInt ≤ (bif decide (0 < m27) then m27 else 0).toInt)) ∧ ((bif decide (0 < m27) then m27 else 0).toInt = (0 : Int32).toInt ∨ (bif decide (0 < m27) then m27 else 0).toInt = m27.toInt) := kd_max
      refine ft_goS mi_k31 1 120 [.int (bif decide (0 < m27) then m27 else 0)] (by rfl) ?_
      generalize hm29 : (bif decide (0 < m27) then m27 else 0) = m29 at m30 ⊢
      have qm29 := hm29.symm
      exact ft_ret mi_k31 (by rfl) (hP m29 _ _ _ _ hG ⟨trivial, (show m29 = cBuyV (i (64 * r 1)) (a (r 1 + 1)) (a (r 1 + 2)) (a (r 1 + 3)) (i (64 * r 1 + 3)) ((a 52).getD x1.toNatClampNeg 0) x2 ((a 53).getD x1.toNatClampNeg 0) (i 3209) ((a 55).getD x1.toNatClampNeg 0) (i 3208) from (by rw [eRr_1]; unfold cBuyV; rw [if_pos (ow8 c26 fi_640.1 kow0)]; first | rfl | (simp only [qm29, qm27, sMn, sMx]; rfl)))⟩)
    ·
      have c31 : (i 640).toInt ≠ (0 : Int32).toInt := kd_eqF c; clear c
      refine fo_goS mi_k31 fz31_35_6_45 [.int x1, .ref 52, .int 0, .ref 73] rfl ?_
      refine ko_iald3 mi_k31.1 (n := 8) (c := 8) (ax := (0, 0, 0, 0, 0)) (mi_k31.2 _ _ (by rfl)) (by rfl) (ksG52 _ _ _ _) (hG.I.2.1 52) rfl (ow4 hp0.1) (ow7 hp0.2) ?_
      refine ko_iast3 mi_k31.1 (n := 6) (c := 6) (ax := (0, 0, 0, 0, 0)) (mi_k31.2 _ _ (by rfl)) (by rfl) (ksG73 _ _ _ _) (ksA73 _ _ _ _) (hG.I.2.1 73) rfl (ow9 kow0) (ow10 kow0) ?_
      intro a32 ea32 fa32
      have hJ32 := kG_a3 hG 73 rfl ea32 fa32 (kd_bd _)
      refine fo_goS mi_k31 fz31_47_4_53 [.int x2, .int 1, .ref 73] rfl ?_
      refine ko_iast3 mi_k31.1 (n := 6) (c := 6) (ax := (0, 0, 0, 0, 0)) (mi_k31.2 _ _ (by rfl)) (by rfl) (ksG73 _ _ _ _) (ksA73 _ _ _ _) (hJ32.I.2.1 73) rfl (ow11 kow1) (ow12 kow1) ?_
      intro a33 ea33 fa33
      have hJ33 := kG_a3 hJ32 73 rfl ea33 fa33 (kd_bd _)
      refine fo_goS mi_k31 fz31_54_6_64 [.int x1, .ref 53, .int 2, .ref 73] rfl ?_
      refine ko_iald3 mi_k31.1 (n := 8) (c := 8) (ax := (0, 0, 0, 0, 0)) (mi_k31.2 _ _ (by rfl)) (by rfl) (ksG53 _ _ _ _) (hJ33.I.2.1 53) rfl (ow4 hp0.1) (ow7 hp0.2) ?_
      refine ko_iast3 mi_k31.1 (n := 6) (c := 6) (ax := (0, 0, 0, 0, 0)) (mi_k31.2 _ _ (by rfl)) (by rfl) (ksG73 _ _ _ _) (ksA73 _ _ _ _) (hJ33.I.2.1 73) rfl (ow13 kow2) (ow14 kow2) ?_
      intro a34 ea34 fa34
      have hJ34 := kG_a3 hJ33 73 rfl ea34 fa34 (kd_bd _)
      refine fo_goS mi_k31 fz31_66_5_75 [.int (i 3209), .int 3, .ref 73] rfl ?_
      refine ko_iast3 mi_k31.1 (n := 6) (c := 6) (ax := (0, 0, 0, 0, 0)) (mi_k31.2 _ _ (by rfl)) (by rfl) (ksG73 _ _ _ _) (ksA73 _ _ _ _) (hJ34.I.2.1 73) rfl (ow15 kow3) (ow16 kow3) ?_
      intro a35 ea35 fa35
      have hJ35 := kG_a3 hJ34 73 rfl ea35 fa35 (kd_bd _)
      refine fo_goS mi_k31 fz31_76_6_86 [.int x1, .ref 55, .int 4, .ref 73] rfl ?_
      refine ko_iald3 mi_k31.1 (n := 8) (c := 8) (ax := (0, 0, 0, 0, 0)) (mi_k31.2 _ _ (by rfl)) (by rfl) (ksG55 _ _ _ _) (hJ35.I.2.1 55) rfl (ow4 hp0.1) (ow7 hp0.2) ?_
      refine ko_iast3 mi_k31.1 (n := 6) (c := 6) (ax := (0, 0, 0, 0, 0)) (mi_k31.2 _ _ (by rfl)) (by rfl) (ksG73 _ _ _ _) (ksA73 _ _ _ _) (hJ35.I.2.1 73) rfl (ow17 kow4) (ow18 kow4) ?_
      intro a36 ea36 fa36
      have hJ36 := kG_a3 hJ35 73 rfl ea36 fa36 (kd_bd _)
      refine fo_goS mi_k31 fz31_88_5_97 [.int (i 3208), .int 5, .ref 73] rfl ?_
      refine ko_iast3 mi_k31.1 (n := 6) (c := 6) (ax := (0, 0, 0, 0, 0)) (mi_k31.2 _ _ (by rfl)) (by rfl) (ksG73 _ _ _ _) (ksA73 _ _ _ _) (hJ36.I.2.1 73) rfl (ow19 kow5) (ow20 kow5) ?_
      intro a37 ea37 fa37
      have hJ37 := kG_a3 hJ36 73 rfl ea37 fa37 (kd_bd _)
      refine fo_goS mi_k31 fz31_98_2_102 [.ref (r 1)] rfl ?_
      refine ko_eq (x1 := (102, [(3, .int (((5 * ((a 52).getD x1.toNatClampNeg 0)) + ((a 53).getD x1.toNatClampNeg 0)) - (2 * ((a 55).getD x1.toNatClampNeg 0)))), (0, .ref 50), (1, .int x1), (2, .int x2)], [.ref 10], (0, 0), ks i a37 q r)) (by rw [eRr_1]) ?_
      have qn38 : a37 73 = [((a 52).getD x1.toNatClampNeg 0), x2, ((a33 53).getD x1.toNatClampNeg 0), (i 3209), ((a35 55).getD x1.toNatClampNeg 0), (i 3208)] := by rw [ea37, ea36, ea35, ea34, ea33, ea32]; exact kNames ((congrArg List.length (rfl)).trans (hG.I.2.1 73))
      refine fo_goS mi_k31 fz31_102_2_106 [.ref 73, .ref 10] rfl ?_
      refine ko_callI mi_k31.1 (pc := 106) (ls := [(3, .int (((5 * ((a 52).getD x1.toNatClampNeg 0)) + ((a 53).getD x1.toNatClampNeg 0)) - (2 * ((a 55).getD x1.toNatClampNeg 0)))), (0, .ref 50), (1, .int x1), (2, .int x2)]) (st := [.ref 73, .ref 10]) (h := ks i a37 q r) (i := (.invokevirtual 126, 3, 21, 0, 9, 0, 224)) (mi_k31.2 _ _ (by rfl)) (ft_invS mi_pq21 (by rfl)) (cy := mi_c21) mi_pq21 rfl (ke21_10_73 hJ37.I hJ37.R ) (by decide) ?_
      intro vg39 ig39 ag39 qg39 rg39 kg39 hg39
      have hGg39 := kG_call hJ37 kg39 (by decide +kernel)
      have eRrg39_1 : rg39 1 = 10 := (kg39.fr 1 rfl).trans eRr_1
      obtain ⟨hg39, og39⟩ := hg39
      have q40 : vg39 = lRun (a37 11) (a37 12) (a37 73) (i 643) 121 0 (a37 13, 0) := og39
      first | refine fo_goS mi_k31 fz31_32_4_114 [.int vg39, .int 99, .int 0] (by rfl) ?_ | refine fo_goL mi_k31 fz31_109_4_114 [(3, .int vg39), (0, .ref 50), (1, .int x1), (2, .int x2)] [.int vg39, .int 99, .int 0] (by rfl) ?_
      have m42 : (((bif decide (vg39 < 99) then vg39 else 99).toInt ≤ (99 : Int32).toInt) ∧ ((bif decide (vg39 < 99) then vg39 else 99).toInt ≤ vg39.toInt)) ∧ ((bif decide (vg39 < 99) then vg39 else 99).toInt = (99 : Int32).toInt ∨ (bif decide (vg39 < 99) then vg39 else 99).toInt = vg39.toInt) := kd_min
      refine ft_goS mi_k31 1 117 [.int (bif decide (vg39 < 99) then vg39 else 99), .int 0] (by rfl) ?_
      generalize hm41 : (bif decide (vg39 < 99) then vg39 else 99) = m41 at m42 ⊢
      have qm41 := hm41.symm
      have m44 : (((0 : Int32).toInt ≤ (bif decide (0 < m41) then m41 else 0).toInt) ∧ (m41.toInt ≤ (bif decide (0 < m41) then m41 else 0).toInt)) ∧ ((bif decide (0 < m41) then m41 else 0).toInt = (0 : Int32).toInt ∨ (bif decide (0 < m41) then m41 else 0).toInt = m41.toInt) := kd_max
      refine ft_goS mi_k31 1 120 [.int (bif decide (0 < m41) then m41 else 0)] (by rfl) ?_
      generalize hm43 : (bif decide (0 < m41) then m41 else 0) = m43 at m44 ⊢
      have qm43 := hm43.symm
      exact ft_ret mi_k31 (by rfl) (hP m43 _ _ _ _ hGg39 ⟨trivial, (show m43 = cBuyV (i (64 * r 1)) (a (r 1 + 1)) (a (r 1 + 2)) (a (r 1 + 3)) (i (64 * r 1 + 3)) ((a 52).getD x1.toNatClampNeg 0) x2 ((a 53).getD x1.toNatClampNeg 0) (i 3209) ((a 55).getD x1.toNatClampNeg 0) (i 3208) from (by rw [eRr_1]; unfold cBuyV; rw [if_neg (ow66 c31 fi_640.1 kow0)]; first | rfl | (simp only [qm43, qm41, q40, fa37 11 (by decide), fa37 12 (by decide), qn38, fa37 13 (by decide), fa36 13 (by decide), fa35 13 (by decide), fa34 13 (by decide), fa33 13 (by decide), fa32 13 (by decide), fa33 53 (by decide), fa35 55 (by decide), fa34 55 (by decide), fa33 55 (by decide), fa32 55 (by decide), fa32 53 (by decide), fa36 12 (by decide), fa35 12 (by decide), fa34 12 (by decide), fa33 12 (by decide), fa32 12 (by decide), fa36 11 (by decide), fa35 11 (by decide), fa34 11 (by decide), fa33 11 (by decide), fa32 11 (by decide), sMn, sMx]; rfl)))⟩)
  ·
    have eRr_1 : r 1 = 100 := eRr_1
    refine ko_eq (x1 := (29, [(3, .int (((5 * ((a 52).getD x1.toNatClampNeg 0)) + ((a 53).getD x1.toNatClampNeg 0)) - (2 * ((a 55).getD x1.toNatClampNeg 0)))), (0, .ref 50), (1, .int x1), (2, .int x2)], [.ref 100], (0, 0), ks i a q r)) (by rw [eRr_1]) ?_
    have fi_6400 : ((0 : Int) ≤ (i 6400).toInt) ∧ ((i 6400).toInt ≤ 1) := hG.I.1 6400
    refine fo_goS mi_k31 fz31_29_1_32 [.int (i 6400)] rfl ?_
    refine ft_ifS mi_k31 ((i 6400) == 0) 110 35 [] (by rfl) (fun c => ?_) (fun c => ?_)
    ·
      have c45 : (i 6400).toInt = (0 : Int32).toInt := kd_eq c; clear c
      refine fo_goS mi_k31 fz31_110_3_114 [.int (((5 * ((a 52).getD x1.toNatClampNeg 0)) + ((a 53).getD x1.toNatClampNeg 0)) - (2 * ((a 55).getD x1.toNatClampNeg 0))), .int 99, .int 0] rfl ?_
      have m47 : (((bif decide ((((5 * ((a 52).getD x1.toNatClampNeg 0)) + ((a 53).getD x1.toNatClampNeg 0)) - (2 * ((a 55).getD x1.toNatClampNeg 0))) < 99) then (((5 * ((a 52).getD x1.toNatClampNeg 0)) + ((a 53).getD x1.toNatClampNeg 0)) - (2 * ((a 55).getD x1.toNatClampNeg 0))) else 99).toInt ≤ (99 : Int32).toInt) ∧ ((bif decide ((((5 * ((a 52).getD x1.toNatClampNeg 0)) + ((a 53).getD x1.toNatClampNeg 0)) - (2 * ((a 55).getD x1.toNatClampNeg 0))) < 99) then (((5 * ((a 52).getD x1.toNatClampNeg 0)) + ((a 53).getD x1.toNatClampNeg 0)) - (2 * ((a 55).getD x1.toNatClampNeg 0))) else 99).toInt ≤ (((5 * ((a 52).getD x1.toNatClampNeg 0)) + ((a 53).getD x1.toNatClampNeg 0)) - (2 * ((a 55).getD x1.toNatClampNeg 0))).toInt)) ∧ ((bif decide ((((5 * ((a 52).getD x1.toNatClampNeg 0)) + ((a 53).getD x1.toNatClampNeg 0)) - (2 * ((a 55).getD x1.toNatClampNeg 0))) < 99) then (((5 * ((a 52).getD x1.toNatClampNeg 0)) + ((a 53).getD x1.toNatClampNeg 0)) - (2 * ((a 55).getD x1.toNatClampNeg 0))) else 99).toInt = (99 : Int32).toInt ∨ (bif decide ((((5 * ((a 52).getD x1.toNatClampNeg 0)) + ((a 53).getD x1.toNatClampNeg 0)) - (2 * ((a 55).getD x1.toNatClampNeg 0))) < 99) then (((5 * ((a 52).getD x1.toNatClampNeg 0)) + ((a 53).getD x1.toNatClampNeg 0)) - (2 * ((a 55).getD x1.toNatClampNeg 0))) else 99).toInt = (((5 * ((a 52).getD x1.toNatClampNeg 0)) + ((a 53).getD x1.toNatClampNeg 0)) - (2 * ((a 55).getD x1.toNatClampNeg 0))).toInt) := kd_min
      refine ft_goS mi_k31 1 117 [.int (bif decide ((((5 * ((a 52).getD x1.toNatClampNeg 0)) + ((a 53).getD x1.toNatClampNeg 0)) - (2 * ((a 55).getD x1.toNatClampNeg 0))) < 99) then (((5 * ((a 52).getD x1.toNatClampNeg 0)) + ((a 53).getD x1.toNatClampNeg 0)) - (2 * ((a 55).getD x1.toNatClampNeg 0))) else 99), .int 0] (by rfl) ?_
      generalize hm46 : (bif decide ((((5 * ((a 52).getD x1.toNatClampNeg 0)) + ((a 53).getD x1.toNatClampNeg 0)) - (2 * ((a 55).getD x1.toNatClampNeg 0))) < 99) then (((5 * ((a 52).getD x1.toNatClampNeg 0)) + ((a 53).getD x1.toNatClampNeg 0)) - (2 * ((a 55).getD x1.toNatClampNeg 0))) else 99) = m46 at m47 ⊢
      have qm46 := hm46.symm
      have m49 : (((0 : Int32).toInt ≤ (bif decide (0 < m46) then m46 else 0).toInt) ∧ (m46.toInt ≤ (bif decide (0 < m46) then m46 else 0).toInt)) ∧ ((bif decide (0 < m46) then m46 else 0).toInt = (0 : Int32).toInt ∨ (bif decide (0 < m46) then m46 else 0).toInt = m46.toInt) := kd_max
      refine ft_goS mi_k31 1 120 [.int (bif decide (0 < m46) then m46 else 0)] (by rfl) ?_
      generalize hm48 : (bif decide (0 < m46) then m46 else 0) = m48 at m49 ⊢
      have qm48 := hm48.symm
      exact ft_ret mi_k31 (by rfl) (hP m48 _ _ _ _ hG ⟨trivial, (show m48 = cBuyV (i (64 * r 1)) (a (r 1 + 1)) (a (r 1 + 2)) (a (r 1 + 3)) (i (64 * r 1 + 3)) ((a 52).getD x1.toNatClampNeg 0) x2 ((a 53).getD x1.toNatClampNeg 0) (i 3209) ((a 55).getD x1.toNatClampNeg 0) (i 3208) from (by rw [eRr_1]; unfold cBuyV; rw [if_pos (ow8 c45 fi_6400.1 kow0)]; first | rfl | (simp only [qm48, qm46, sMn, sMx]; rfl)))⟩)
    ·
      have c50 : (i 6400).toInt ≠ (0 : Int32).toInt := kd_eqF c; clear c
      refine fo_goS mi_k31 fz31_35_6_45 [.int x1, .ref 52, .int 0, .ref 73] rfl ?_
      refine ko_iald3 mi_k31.1 (n := 8) (c := 8) (ax := (0, 0, 0, 0, 0)) (mi_k31.2 _ _ (by rfl)) (by rfl) (ksG52 _ _ _ _) (hG.I.2.1 52) rfl (ow4 hp0.1) (ow7 hp0.2) ?_
      refine ko_iast3 mi_k31.1 (n := 6) (c := 6) (ax := (0, 0, 0, 0, 0)) (mi_k31.2 _ _ (by rfl)) (by rfl) (ksG73 _ _ _ _) (ksA73 _ _ _ _) (hG.I.2.1 73) rfl (ow9 kow0) (ow10 kow0) ?_
      intro a51 ea51 fa51
      have hJ51 := kG_a3 hG 73 rfl ea51 fa51 (kd_bd _)
      refine fo_goS mi_k31 fz31_47_4_53 [.int x2, .int 1, .ref 73] rfl ?_
      refine ko_iast3 mi_k31.1 (n := 6) (c := 6) (ax := (0, 0, 0, 0, 0)) (mi_k31.2 _ _ (by rfl)) (by rfl) (ksG73 _ _ _ _) (ksA73 _ _ _ _) (hJ51.I.2.1 73) rfl (ow11 kow1) (ow12 kow1) ?_
      intro a52 ea52 fa52
      have hJ52 := kG_a3 hJ51 73 rfl ea52 fa52 (kd_bd _)
      refine fo_goS mi_k31 fz31_54_6_64 [.int x1, .ref 53, .int 2, .ref 73] rfl ?_
      refine ko_iald3 mi_k31.1 (n := 8) (c := 8) (ax := (0, 0, 0, 0, 0)) (mi_k31.2 _ _ (by rfl)) (by rfl) (ksG53 _ _ _ _) (hJ52.I.2.1 53) rfl (ow4 hp0.1) (ow7 hp0.2) ?_
      refine ko_iast3 mi_k31.1 (n := 6) (c := 6) (ax := (0, 0, 0, 0, 0)) (mi_k31.2 _ _ (by rfl)) (by rfl) (ksG73 _ _ _ _) (ksA73 _ _ _ _) (hJ52.I.2.1 73) rfl (ow13 kow2) (ow14 kow2) ?_
      intro a53 ea53 fa53
      have hJ53 := kG_a3 hJ52 73 rfl ea53 fa53 (kd_bd _)
      refine fo_goS mi_k31 fz31_66_5_75 [.int (i 3209), .int 3, .ref 73] rfl ?_
      refine ko_iast3 mi_k31.1 (n := 6) (c := 6) (ax := (0, 0, 0, 0, 0)) (mi_k31.2 _ _ (by rfl)) (by rfl) (ksG73 _ _ _ _) (ksA73 _ _ _ _) (hJ53.I.2.1 73) rfl (ow15 kow3) (ow16 kow3) ?_
      intro a54 ea54 fa54
      have hJ54 := kG_a3 hJ53 73 rfl ea54 fa54 (kd_bd _)
      refine fo_goS mi_k31 fz31_76_6_86 [.int x1, .ref 55, .int 4, .ref 73] rfl ?_
      refine ko_iald3 mi_k31.1 (n := 8) (c := 8) (ax := (0, 0, 0, 0, 0)) (mi_k31.2 _ _ (by rfl)) (by rfl) (ksG55 _ _ _ _) (hJ54.I.2.1 55) rfl (ow4 hp0.1) (ow7 hp0.2) ?_
      refine ko_iast3 mi_k31.1 (n := 6) (c := 6) (ax := (0, 0, 0, 0, 0)) (mi_k31.2 _ _ (by rfl)) (by rfl) (ksG73 _ _ _ _) (ksA73 _ _ _ _) (hJ54.I.2.1 73) rfl (ow17 kow4) (ow18 kow4) ?_
      intro a55 ea55 fa55
      have hJ55 := kG_a3 hJ54 73 rfl ea55 fa55 (kd_bd _)
      refine fo_goS mi_k31 fz31_88_5_97 [.int (i 3208), .int 5, .ref 73] rfl ?_
      refine ko_iast3 mi_k31.1 (n := 6) (c := 6) (ax := (0, 0, 0, 0, 0)) (mi_k31.2 _ _ (by rfl)) (by rfl) (ksG73 _ _ _ _) (ksA73 _ _ _ _) (hJ55.I.2.1 73) rfl (ow19 kow5) (ow20 kow5) ?_
      intro a56 ea56 fa56
      have hJ56 := kG_a3 hJ55 73 rfl ea56 fa56 (kd_bd _)
      refine fo_goS mi_k31 fz31_98_2_102 [.ref (r 1)] rfl ?_
      refine ko_eq (x1 := (102, [(3, .int (((5 * ((a 52).getD x1.toNatClampNeg 0)) + ((a 53).getD x1.toNatClampNeg 0)) - (2 * ((a 55).getD x1.toNatClampNeg 0)))), (0, .ref 50), (1, .int x1), (2, .int x2)], [.ref 100], (0, 0), ks i a56 q r)) (by rw [eRr_1]) ?_
      have qn57 : a56 73 = [((a 52).getD x1.toNatClampNeg 0), x2, ((a52 53).getD x1.toNatClampNeg 0), (i 3209), ((a54 55).getD x1.toNatClampNeg 0), (i 3208)] := by rw [ea56, ea55, ea54, ea53, ea52, ea51]; exact kNames ((congrArg List.length (rfl)).trans (hG.I.2.1 73))
      refine fo_goS mi_k31 fz31_102_2_106 [.ref 73, .ref 100] rfl ?_
      refine ko_callI mi_k31.1 (pc := 106) (ls := [(3, .int (((5 * ((a 52).getD x1.toNatClampNeg 0)) + ((a 53).getD x1.toNatClampNeg 0)) - (2 * ((a 55).getD x1.toNatClampNeg 0)))), (0, .ref 50), (1, .int x1), (2, .int x2)]) (st := [.ref 73, .ref 100]) (h := ks i a56 q r) (i := (.invokevirtual 126, 3, 21, 0, 9, 0, 224)) (mi_k31.2 _ _ (by rfl)) (ft_invS mi_pq21 (by rfl)) (cy := mi_c21) mi_pq21 rfl (ke21_100_73 hJ56.I hJ56.R ) (by decide) ?_
      intro vg58 ig58 ag58 qg58 rg58 kg58 hg58
      have hGg58 := kG_call hJ56 kg58 (by decide +kernel)
      have eRrg58_1 : rg58 1 = 100 := (kg58.fr 1 rfl).trans eRr_1
      obtain ⟨hg58, og58⟩ := hg58
      have q59 : vg58 = lRun (a56 101) (a56 102) (a56 73) (i 6403) 121 0 (a56 103, 0) := og58
      first | refine fo_goS mi_k31 fz31_32_4_114 [.int vg58, .int 99, .int 0] (by rfl) ?_ | refine fo_goL mi_k31 fz31_109_4_114 [(3, .int vg58), (0, .ref 50), (1, .int x1), (2, .int x2)] [.int vg58, .int 99, .int 0] (by rfl) ?_
      have m61 : (((bif decide (vg58 < 99) then vg58 else 99).toInt ≤ (99 : Int32).toInt) ∧ ((bif decide (vg58 < 99) then vg58 else 99).toInt ≤ vg58.toInt)) ∧ ((bif decide (vg58 < 99) then vg58 else 99).toInt = (99 : Int32).toInt ∨ (bif decide (vg58 < 99) then vg58 else 99).toInt = vg58.toInt) := kd_min
      refine ft_goS mi_k31 1 117 [.int (bif decide (vg58 < 99) then vg58 else 99), .int 0] (by rfl) ?_
      generalize hm60 : (bif decide (vg58 < 99) then vg58 else 99) = m60 at m61 ⊢
      have qm60 := hm60.symm
      have m63 : (((0 : Int32).toInt ≤ (bif decide (0 < m60) then m60 else 0).toInt) ∧ (m60.toInt ≤ (bif decide (0 < m60) then m60 else 0).toInt)) ∧ ((bif decide (0 < m60) then m60 else 0).toInt = (0 : Int32).toInt ∨ (bif decide (0 < m60) then m60 else 0).toInt = m60.toInt) := kd_max
      refine ft_goS mi_k31 1 120 [.int (bif decide (0 < m60) then m60 else 0)] (by rfl) ?_
      generalize hm62 : (bif decide (0 < m60) then m60 else 0) = m62 at m63 ⊢
      have qm62 := hm62.symm
      exact ft_ret mi_k31 (by rfl) (hP m62 _ _ _ _ hGg58 ⟨trivial, (show m62 = cBuyV (i (64 * r 1)) (a (r 1 + 1)) (a (r 1 + 2)) (a (r 1 + 3)) (i (64 * r 1 + 3)) ((a 52).getD x1.toNatClampNeg 0) x2 ((a 53).getD x1.toNatClampNeg 0) (i 3209) ((a 55).getD x1.toNatClampNeg 0) (i 3208) from (by rw [eRr_1]; unfold cBuyV; rw [if_neg (ow66 c50 fi_6400.1 kow0)]; first | rfl | (simp only [qm62, qm60, q59, fa56 101 (by decide), fa56 102 (by decide), qn57, fa56 103 (by decide), fa55 103 (by decide), fa54 103 (by decide), fa53 103 (by decide), fa52 103 (by decide), fa51 103 (by decide), fa52 53 (by decide), fa54 55 (by decide), fa53 55 (by decide), fa52 55 (by decide), fa51 55 (by decide), fa51 53 (by decide), fa55 102 (by decide), fa54 102 (by decide), fa53 102 (by decide), fa52 102 (by decide), fa51 102 (by decide), fa55 101 (by decide), fa54 101 (by decide), fa53 101 (by decide), fa52 101 (by decide), fa51 101 (by decide), sMn, sMx]; rfl)))⟩)
noncomputable def zw1_56 : kW := ([3586], [57, 58], [], [])
set_option maxRecDepth 100000 in
theorem kf1_56 {i : Nat → Int32} {a : Nat → List Int32} {q : Nat → List Int64} {r : Nat → Nat} (hI : kI i a q) (hr : kr r) (x1 : Int32) (x2 : Int32) (hp0 : (i 3586).toInt ≤ 4) : km 1 1 [.ref 56, .int x1, .int x2] (ks i a q r) (kVN zw1_56 i a q r (fun i1 a1 q1 r1 => ((i1 3586).toInt = ((i 3586).toInt + 1)) ∧ (a1 57 = (a 57).set (i 3586).toNatClampNeg x1 ∧ a1 58 = (a 58).set (i 3586).toNatClampNeg x2 ∧ i1 3586 = i 3586 + 1))) := by
  have hG := kG_self zw1_56 hI hr
  refine km_ofN (q := (mi_h1, mi_c1)) rfl (by decide) (Nat.le_of_ble_eq_true rfl) ?_
  intro P hP
  have fi_3586 : ((0 : Int) ≤ (i 3586).toInt) ∧ ((i 3586).toInt ≤ 5) := hG.I.1 3586
  refine fo_goL mi_k1 fz1_0_3_5 [(0, .ref 56), (1, .int x1), (2, .int x2)] [.int 5, .int (i 3586)] rfl ?_
  refine ft_ifS mi_k1 (decide (5 ≤ (i 3586))) 38 8 [] (by rfl) (fun c => ?_) (fun c => ?_)
  ·
    have c1 : (5 : Int32).toInt ≤ (i 3586).toInt := kd_le c; clear c
    exact (ow68 c1 hp0 kow5).elim
  ·
    have c2 : (i 3586).toInt < (5 : Int32).toInt := kd_leF c; clear c
    refine fo_goS mi_k1 fz1_8_5_17 [.int x1, .int (i 3586), .ref 57] rfl ?_
    refine ko_iast3 mi_k1.1 (n := 5) (c := 5) (ax := (0, 0, 0, 0, 0)) (mi_k1.2 _ _ (by rfl)) (by rfl) (ksG57 _ _ _ _) (ksA57 _ _ _ _) (hG.I.2.1 57) rfl (ow4 fi_3586.1) (ow69 hp0) ?_
    intro a3 ea3 fa3
    have hJ3 := kG_a3 hG 57 rfl ea3 fa3 (kd_bd _)
    refine fo_goS mi_k1 fz1_18_5_27 [.int x2, .int (i 3586), .ref 58] rfl ?_
    refine ko_iast3 mi_k1.1 (n := 5) (c := 5) (ax := (0, 0, 0, 0, 0)) (mi_k1.2 _ _ (by rfl)) (by rfl) (ksG58 _ _ _ _) (ksA58 _ _ _ _) (hJ3.I.2.1 58) rfl (ow4 fi_3586.1) (ow69 hp0) ?_
    intro a4 ea4 fa4
    have hJ4 := kG_a3 hJ3 58 rfl ea4 fa4 (kd_bd _)
    have s5 : ((i 3586) + 1).toInt = (i 3586).toInt + (1 : Int32).toInt := kd_add (ow32 fi_3586.1 kow1) (ow70 fi_3586.2 kow1)
    have hJ6 := kG_i hJ4 3586 rfl (v := ((i 3586) + 1)) ⟨(ow34 fi_3586.1 s5 kow1), (ow71 hp0 s5 kow1)⟩
    first | refine fo_goI mi_k1 fz1_28_6_38 [] (ku i 3586 ((i 3586) + 1)) (by rfl) ?_ | refine ft_go mi_k1 6 38 [(0, .ref 56), (1, .int x1), (2, .int x2)] [] (ku i 3586 ((i 3586) + 1)) a4 q r (by rfl) ?_
    exact ft_ret mi_k1 (by rfl) (hP  _ _ _ _ hJ6 ⟨(ow72 s5 kow1), ⟨(show a4 57 = (a 57).set (i 3586).toNatClampNeg x1 from (by first | rfl | (simp only [fa4 57 (by decide), ea3, sMn, sMx]; done) | (simp only [fa4 57 (by decide), ea3, sMn, sMx]; rfl))), (show a4 58 = (a 58).set (i 3586).toNatClampNeg x2 from (by first | rfl | (simp only [ea4, fa3 58 (by decide), sMn, sMx]; done) | (simp only [ea4, fa3 58 (by decide), sMn, sMx]; rfl))), (show ((i 3586) + 1) = i 3586 + 1 from (by first | rfl | (simp only [sMn, sMx]; done) | (simp only [sMn, sMx]; rfl)))⟩⟩)
noncomputable def yw2_56 : kW := ([3586], [57, 58], [], [])
set_option maxRecDepth 100000 in
theorem ke2_56 {i : Nat → Int32} {a : Nat → List Int32} {q : Nat → List Int64} {r : Nat → Nat} (hI : kI i a q) (hr : kr r) (hp0 : (1 : Int) ≤ (i 3586).toInt) : km 1 2 [.ref 56] (ks i a q r) (kVN yw2_56 i a q r (fun i1 a1 q1 r1 => ((i1 3586).toInt = ((i 3586).toInt - 1)) ∧ (i1 3586 = i 3586 - 1 ∧ a1 57 = mi_cpy (a 57) (a 57) (1 : Int32).toNatClampNeg (0 : Int32).toNatClampNeg (i 3586 - 1).toNatClampNeg ∧ a1 58 = mi_cpy (a 58) (a 58) (1 : Int32).toNatClampNeg (0 : Int32).toNatClampNeg (i 3586 - 1).toNatClampNeg))) := by
  have hG := kG_self yw2_56 hI hr
  refine km_ofN (q := (mi_h2, mi_c2)) rfl (by decide) (Nat.le_of_ble_eq_true rfl) ?_
  intro P hP
  have fi_3586 : ((0 : Int) ≤ (i 3586).toInt) ∧ ((i 3586).toInt ≤ 5) := hG.I.1 3586
  refine fo_goL mi_k2 fz2_0_2_4 [(0, .ref 56)] [.int (i 3586)] rfl ?_
  refine ft_ifS mi_k2 (decide ((i 3586) ≤ 0)) 51 7 [] (by rfl) (fun c => ?_) (fun c => ?_)
  ·
    have c1 : (i 3586).toInt ≤ (0 : Int32).toInt := kd_le c; clear c
    exact (ow80 c1 hp0 kow0).elim
  ·
    have c2 : (0 : Int32).toInt < (i 3586).toInt := kd_leF c; clear c
    have s3 : ((i 3586) - 1).toInt = (i 3586).toInt - (1 : Int32).toInt := kd_sub (ow81 hp0 kow1) (ow82 fi_3586.2 kow1)
    have hJ4 := kG_i hG 3586 rfl (v := ((i 3586) - 1)) ⟨(ow83 hp0 s3 kow1), (ow84 fi_3586.2 s3 kow1)⟩
    first | refine fo_goI mi_k2 fz2_7_14_31 [.int ((i 3586) - 1), .int 0, .ref 57, .int 1, .ref 57] (ku i 3586 ((i 3586) - 1)) (by rfl) ?_ | refine ft_go mi_k2 14 31 [(0, .ref 56)] [.int ((i 3586) - 1), .int 0, .ref 57, .int 1, .ref 57] (ku i 3586 ((i 3586) - 1)) a q r (by rfl) ?_
    refine ko_copyI3 mi_k2.1 (n := 5) (c := 5) (m := 5) (b := 5) (mi_k2.2 _ _ (by rfl)) (by rfl) (by rfl) (by rfl) (ksG57 _ _ _ _) (ksG57 _ _ _ _) (ksA57 _ _ _ _) (hJ4.I.2.1 57) rfl (hJ4.I.2.1 57) rfl (ow83 hp0 s3 kow1) (ow11 kow1) (ow9 kow0) (ow85 fi_3586.2 s3 kow1) (ow86 fi_3586.2 s3 kow1 kow0) ?_
    intro a6 ea6 fa6
    have hJ6 := kG_al3 hJ4 57 rfl ea6 fa6 (kcpy_len2 (n := 5) (c := 5) (m := 5) (b := 5) (sp := 1) (dp := 0) (n1 := ((i 3586) - 1)) (hJ4.I.2.1 57) rfl (hJ4.I.2.1 57) rfl (ow83 hp0 s3 kow1) (ow11 kow1) (ow9 kow0) (ow85 fi_3586.2 s3 kow1) (ow86 fi_3586.2 s3 kow1 kow0)) (fun _ => kd_bd _)
    refine fo_goS mi_k2 fz2_34_8_48 [.int ((i 3586) - 1), .int 0, .ref 58, .int 1, .ref 58] rfl ?_
    refine ko_copyI3 mi_k2.1 (n := 5) (c := 5) (m := 5) (b := 5) (mi_k2.2 _ _ (by rfl)) (by rfl) (by rfl) (by rfl) (ksG58 _ _ _ _) (ksG58 _ _ _ _) (ksA58 _ _ _ _) (hJ6.I.2.1 58) rfl (hJ6.I.2.1 58) rfl (ow83 hp0 s3 kow1) (ow11 kow1) (ow9 kow0) (ow85 fi_3586.2 s3 kow1) (ow86 fi_3586.2 s3 kow1 kow0) ?_
    intro a8 ea8 fa8
    have hJ8 := kG_al3 hJ6 58 rfl ea8 fa8 (kcpy_len2 (n := 5) (c := 5) (m := 5) (b := 5) (sp := 1) (dp := 0) (n1 := ((i 3586) - 1)) (hJ6.I.2.1 58) rfl (hJ6.I.2.1 58) rfl (ow83 hp0 s3 kow1) (ow11 kow1) (ow9 kow0) (ow85 fi_3586.2 s3 kow1) (ow86 fi_3586.2 s3 kow1 kow0)) (fun _ => kd_bd _)
    exact ft_ret mi_k2 (by rfl) (hP  _ _ _ _ hJ8 ⟨(ow87 s3 kow1), ⟨(show ((i 3586) - 1) = i 3586 - 1 from (by first | rfl | (simp only [sMn, sMx]; done) | (simp only [sMn, sMx]; rfl))), (show a8 57 = mi_cpy (a 57) (a 57) (1 : Int32).toNatClampNeg (0 : Int32).toNatClampNeg (i 3586 - 1).toNatClampNeg from (by first | rfl | (simp only [fa8 57 (by decide), ea6, sMn, sMx]; done) | (simp only [fa8 57 (by decide), ea6, sMn, sMx]; rfl))), (show a8 58 = mi_cpy (a 58) (a 58) (1 : Int32).toNatClampNeg (0 : Int32).toNatClampNeg (i 3586 - 1).toNatClampNeg from (by first | rfl | (simp only [ea8, fa6 58 (by decide), sMn, sMx]; done) | (simp only [ea8, fa6 58 (by decide), sMn, sMx]; rfl)))⟩⟩)
noncomputable def yw30_50 : kW := ([3214, 3215, 3586], [51, 57, 58, 63, 65, 66, 67, 68, 69, 70, 71, 72], [], [])
set_option maxRecDepth 100000 in
theorem ke30_50 {i : Nat → Int32} {a : Nat → List Int32} {q : Nat → List Int64} {r : Nat → Nat} (hI : kI i a q) (hr : kr r) (x1 : Int32) (hp0 : ((0 : Int) ≤ x1.toInt) ∧ (x1.toInt ≤ 7)) (hp1 : (1 : Int) ≤ (i 3586).toInt) : km 3 30 [.ref 50, .int x1] (ks i a q r) (kVN yw30_50 i a q r (fun i1 a1 q1 r1 => ((i1 3586).toInt = ((i 3586).toInt - 1)) ∧ cT 50 i1 a1 = cPay (i 3200) x1 (cT 50 i a))) := by
  have hG := kG_self yw30_50 hI hr
  refine km_ofN (q := (mi_h30, mi_c30)) rfl (by decide) (Nat.le_of_ble_eq_true rfl) ?_
  intro P hP
  refine fo_goL mi_k30 fz30_0_4_8 [(0, .ref 50), (1, .int x1)] [.int 0, .ref 57] rfl ?_
  refine ko_iald3 mi_k30.1 (n := 5) (c := 5) (ax := (0, 0, 0, 0, 0)) (mi_k30.2 _ _ (by rfl)) (by rfl) (ksG57 _ _ _ _) (hG.I.2.1 57) rfl (ow9 kow0) (ow74 kow0) ?_
  refine fo_goL mi_k30 fz30_9_5_18 [(2, .int ((a 57).getD (0 : Int32).toNatClampNeg 0)), (0, .ref 50), (1, .int x1)] [.int 0, .ref 58] rfl ?_
  refine ko_iald3 mi_k30.1 (n := 5) (c := 5) (ax := (0, 0, 0, 0, 0)) (mi_k30.2 _ _ (by rfl)) (by rfl) (ksG58 _ _ _ _) (hG.I.2.1 58) rfl (ow9 kow0) (ow74 kow0) ?_
  refine fo_goL mi_k30 fz30_19_3_24 [(3, .int ((a 58).getD (0 : Int32).toNatClampNeg 0)), (2, .int ((a 57).getD (0 : Int32).toNatClampNeg 0)), (0, .ref 50), (1, .int x1)] [.ref 56] rfl ?_
  refine ko_callN mi_k30.1 (pc := 24) (ls := [(3, .int ((a 58).getD (0 : Int32).toNatClampNeg 0)), (2, .int ((a 57).getD (0 : Int32).toNatClampNeg 0)), (0, .ref 50), (1, .int x1)]) (st := [.ref 56]) (h := ks i a q r) (i := (.invokevirtual 114, 3, 2, 0, 9, 0, 222)) (mi_k30.2 _ _ (by rfl)) (ft_invS mi_pq2 (by rfl)) (cy := mi_c2) mi_pq2 rfl (ke2_56 hG.I hG.R (ow88 hp1)) (by decide) ?_
  intro ig1 ag1 qg1 rg1 kg1 hg1
  have hGg1 := kG_call hG kg1 (by decide +kernel)
  obtain ⟨hg1, og1⟩ := hg1
  have z2 : (ig1 3586).toInt = ((i 3586).toInt - 1) := hg1
  have q3 : ig1 3586 = i 3586 - 1 := og1.1
  have q4 : ag1 57 = mi_cpy (a 57) (a 57) (1 : Int32).toNatClampNeg (0 : Int32).toNatClampNeg (i 3586 - 1).toNatClampNeg := og1.2.1
  have q5 : ag1 58 = mi_cpy (a 58) (a 58) (1 : Int32).toNatClampNeg (0 : Int32).toNatClampNeg (i 3586 - 1).toNatClampNeg := og1.2.2
  have efig1_3214 : (ig1 3214).toInt = (i 3214).toInt := kg1.ti 3214 rfl
  refine fo_goS mi_k30 fz30_27_3_33 [.int 8, .int (ig1 3214)] rfl ?_
  refine ft_ifS mi_k30 ((ig1 3214) != 8) 41 36 [] (by rfl) (fun c => ?_) (fun c => ?_)
  ·
    have c6 : (ig1 3214).toInt ≠ (8 : Int32).toInt := kd_ne c; clear c
    refine fo_goS mi_k30 fz30_41_2_43 [.int x1, .int ((a 57).getD (0 : Int32).toNatClampNeg 0)] rfl ?_
    refine ft_ifS mi_k30 (((a 57).getD (0 : Int32).toNatClampNeg 0) == x1) 54 46 [] (by rfl) (fun c => ?_) (fun c => ?_)
    ·
      have c7 : ((a 57).getD (0 : Int32).toNatClampNeg 0).toInt = x1.toInt := kd_eq c; clear c
      exact ft_ret mi_k30 (by rfl) (hP  _ _ _ _ hGg1 ⟨(ow89 z2), ((cT_eq (p := 50) (i := ig1) (a := ag1) (T := cRest (cT 50 i a)) (show ig1 3586 = (cRest (cT 50 i a)).1 from by first | rfl | (simp only [q3, sMn, sMx, cGive, cRest, cCoin, cT]; done) | (simp only [q3, sMn, sMx, cGive, cRest, cCoin, cT]; rfl)) (show ag1 57 = (cRest (cT 50 i a)).2.1 from by first | rfl | (simp only [q4, sMn, sMx, cGive, cRest, cCoin, cT]; done) | (simp only [q4, sMn, sMx, cGive, cRest, cCoin, cT]; rfl)) (show ag1 58 = (cRest (cT 50 i a)).2.2.1 from by first | rfl | (simp only [q5, sMn, sMx, cGive, cRest, cCoin, cT]; done) | (simp only [q5, sMn, sMx, cGive, cRest, cCoin, cT]; rfl)) (show ag1 51 = (cRest (cT 50 i a)).2.2.2.1 from by first | rfl | (simp only [kg1.fa 51 rfl, sMn, sMx, cGive, cRest, cCoin, cT]; done) | (simp only [kg1.fa 51 rfl, sMn, sMx, cGive, cRest, cCoin, cT]; rfl)) ((show ig1 3214 = i 3214 from (by first | rfl | (simp only [(show ig1 3214 = i 3214 from kg1.fi 3214 rfl), sMn, sMx]; done) | (simp only [(show ig1 3214 = i 3214 from kg1.fi 3214 rfl), sMn, sMx]; rfl))).trans (cY_neg (y := i 3214) (d := (a 57).getD 0 0) (ow91 c6 efig1_3214 kow8))) (show ig1 3215 = (cRest (cT 50 i a)).2.2.2.2.2.1 from by first | rfl | (simp only [(show ig1 3215 = i 3215 from kg1.fi 3215 rfl), sMn, sMx, cGive, cRest, cCoin, cT]; done) | (simp only [(show ig1 3215 = i 3215 from kg1.fi 3215 rfl), sMn, sMx, cGive, cRest, cCoin, cT]; rfl)) (show ag1 63 = (cRest (cT 50 i a)).2.2.2.2.2.2.1 from by first | rfl | (simp only [kg1.fa 63 rfl, sMn, sMx, cGive, cRest, cCoin, cT]; done) | (simp only [kg1.fa 63 rfl, sMn, sMx, cGive, cRest, cCoin, cT]; rfl)) (fun u hu => match u, hu with | 0, _ => (show ag1 65 = cRow 50 a 0 from by rw [cRow_lt (p := 50) (a := a) (by decide : 0 < 8)]; first | rfl | (simp only [kg1.fa 65 rfl, sMn, sMx, cCoin, cT]; done) | (simp only [kg1.fa 65 rfl, sMn, sMx, cCoin, cT]; rfl)) | 1, _ => (show ag1 66 = cRow 50 a 1 from by rw [cRow_lt (p := 50) (a := a) (by decide : 1 < 8)]; first | rfl | (simp only [kg1.fa 66 rfl, sMn, sMx, cCoin, cT]; done) | (simp only [kg1.fa 66 rfl, sMn, sMx, cCoin, cT]; rfl)) | 2, _ => (show ag1 67 = cRow 50 a 2 from by rw [cRow_lt (p := 50) (a := a) (by decide : 2 < 8)]; first | rfl | (simp only [kg1.fa 67 rfl, sMn, sMx, cCoin, cT]; done) | (simp only [kg1.fa 67 rfl, sMn, sMx, cCoin, cT]; rfl)) | 3, _ => (show ag1 68 = cRow 50 a 3 from by rw [cRow_lt (p := 50) (a := a) (by decide : 3 < 8)]; first | rfl | (simp only [kg1.fa 68 rfl, sMn, sMx, cCoin, cT]; done) | (simp only [kg1.fa 68 rfl, sMn, sMx, cCoin, cT]; rfl)) | 4, _ => (show ag1 69 = cRow 50 a 4 from by rw [cRow_lt (p := 50) (a := a) (by decide : 4 < 8)]; first | rfl | (simp only [kg1.fa 69 rfl, sMn, sMx, cCoin, cT]; done) | (simp only [kg1.fa 69 rfl, sMn, sMx, cCoin, cT]; rfl)) | 5, _ => (show ag1 70 = cRow 50 a 5 from by rw [cRow_lt (p := 50) (a := a) (by decide : 5 < 8)]; first | rfl | (simp only [kg1.fa 70 rfl, sMn, sMx, cCoin, cT]; done) | (simp only [kg1.fa 70 rfl, sMn, sMx, cCoin, cT]; rfl)) | 6, _ => (show ag1 71 = cRow 50 a 6 from by rw [cRow_lt (p := 50) (a := a) (by decide : 6 < 8)]; first | rfl | (simp only [kg1.fa 71 rfl, sMn, sMx, cCoin, cT]; done) | (simp only [kg1.fa 71 rfl, sMn, sMx, cCoin, cT]; rfl)) | 7, _ => (show ag1 72 = cRow 50 a 7 from by rw [cRow_lt (p := 50) (a := a) (by decide : 7 < 8)]; first | rfl | (simp only [kg1.fa 72 rfl, sMn, sMx, cCoin, cT]; done) | (simp only [kg1.fa 72 rfl, sMn, sMx, cCoin, cT]; rfl)) | _ + 8, h => absurd h (by omega)) (fun u hu => cRow_ge hu)).trans (show cRest (cT 50 i a) = cPay (i 3200) x1 (cT 50 i a) from (if_neg (ow90 c7)).symm))⟩)
    ·
      have c8 : ((a 57).getD (0 : Int32).toNatClampNeg 0).toInt ≠ x1.toInt := kd_eqF c; clear c
      refine fo_goS mi_k30 fz30_46_2_48 [.int ((a 57).getD (0 : Int32).toNatClampNeg 0), .ref 50] rfl ?_
      refine ko_callPI mi_k30.1 (pc := 48) (ls := [(3, .int ((a 58).getD (0 : Int32).toNatClampNeg 0)), (2, .int ((a 57).getD (0 : Int32).toNatClampNeg 0)), (0, .ref 50), (1, .int x1)]) (st := [.int ((a 57).getD (0 : Int32).toNatClampNeg 0), .ref 50]) (h := ks ig1 ag1 qg1 rg1) (i := (.invokevirtual 85, 3, 24, 0, 9, 0, 165)) (mi_k30.2 _ _ (by rfl)) (ft_invS mi_pq24 (by rfl)) (cy := mi_c24) mi_pq24 rfl (kc24_50 hGg1.I hGg1.R ((a 57).getD (0 : Int32).toNatClampNeg 0)) (by decide) ?_
      intro vg9 hg9
      rcases hg9 with ⟨eg9, hg9⟩ | ⟨eg9, hg9⟩
      ·
        subst eg9
        have fig1_3200 : ((0 : Int) ≤ (ig1 3200).toInt) ∧ ((ig1 3200).toInt ≤ 8) := hGg1.I.1 3200
        have efig1_3200 : (ig1 3200).toInt = (i 3200).toInt := kg1.ti 3200 rfl
        have z10 : ((0 : Int) ≤ ((a 57).getD (0 : Int32).toNatClampNeg 0).toInt) ∧ (((a 57).getD (0 : Int32).toNatClampNeg 0).toInt < (ig1 3200).toInt) := hg9
        first | refine fo_goS mi_k30 fz30_51_5_61 [.int ((a 57).getD (0 : Int32).toNatClampNeg 0), .ref 51, .int ((a 58).getD (0 : Int32).toNatClampNeg 0)] (by rfl) ?_ | refine ft_goS mi_k30 5 61 [.int ((a 57).getD (0 : Int32).toNatClampNeg 0), .ref 51, .int ((a 58).getD (0 : Int32).toNatClampNeg 0)] (by rfl) ?_ | refine ko_steps mi_in30 5 _ (61, [(3, .int ((a 58).getD (0 : Int32).toNatClampNeg 0)), (2, .int ((a 57).getD (0 : Int32).toNatClampNeg 0)), (0, .ref 50), (1, .int x1)], [.int ((a 57).getD (0 : Int32).toNatClampNeg 0), .ref 51, .int ((a 58).getD (0 : Int32).toNatClampNeg 0)], (0, 0), ks ig1 ag1 qg1 rg1) (by rfl) ?_
        refine ko_iald3 mi_k30.1 (n := 8) (c := 8) (ax := (0, 0, 0, 0, 0)) (mi_k30.2 _ _ (by rfl)) (by rfl) (ksG51 _ _ _ _) (hGg1.I.2.1 51) rfl (ow4 z10.1) (ow5 fig1_3200.2 z10.2) ?_
        have m12 : (((bif decide (((ag1 51).getD ((a 57).getD (0 : Int32).toNatClampNeg 0).toNatClampNeg 0) < ((a 58).getD (0 : Int32).toNatClampNeg 0)) then ((ag1 51).getD ((a 57).getD (0 : Int32).toNatClampNeg 0).toNatClampNeg 0) else ((a 58).getD (0 : Int32).toNatClampNeg 0)).toInt ≤ ((a 58).getD (0 : Int32).toNatClampNeg 0).toInt) ∧ ((bif decide (((ag1 51).getD ((a 57).getD (0 : Int32).toNatClampNeg 0).toNatClampNeg 0) < ((a 58).getD (0 : Int32).toNatClampNeg 0)) then ((ag1 51).getD ((a 57).getD (0 : Int32).toNatClampNeg 0).toNatClampNeg 0) else ((a 58).getD (0 : Int32).toNatClampNeg 0)).toInt ≤ ((ag1 51).getD ((a 57).getD (0 : Int32).toNatClampNeg 0).toNatClampNeg 0).toInt)) ∧ ((bif decide (((ag1 51).getD ((a 57).getD (0 : Int32).toNatClampNeg 0).toNatClampNeg 0) < ((a 58).getD (0 : Int32).toNatClampNeg 0)) then ((ag1 51).getD ((a 57).getD (0 : Int32).toNatClampNeg 0).toNatClampNeg 0) else ((a 58).getD (0 : Int32).toNatClampNeg 0)).toInt = ((a 58).getD (0 : Int32).toNatClampNeg 0).toInt ∨ (bif decide (((ag1 51).getD ((a 57).getD (0 : Int32).toNatClampNeg 0).toNatClampNeg 0) < ((a 58).getD (0 : Int32).toNatClampNeg 0)) then ((ag1 51).getD ((a 57).getD (0 : Int32).toNatClampNeg 0).toNatClampNeg 0) else ((a 58).getD (0 : Int32).toNatClampNeg 0)).toInt = ((ag1 51).getD ((a 57).getD (0 : Int32).toNatClampNeg 0).toNatClampNeg 0).toInt) := kd_min
        first | refine ft_goS mi_k30 1 65 [.int (bif decide (((ag1 51).getD ((a 57).getD (0 : Int32).toNatClampNeg 0).toNatClampNeg 0) < ((a 58).getD (0 : Int32).toNatClampNeg 0)) then ((ag1 51).getD ((a 57).getD (0 : Int32).toNatClampNeg 0).toNatClampNeg 0) else ((a 58).getD (0 : Int32).toNatClampNeg 0))] (by rfl) ?_ | refine ko_steps mi_in30 1 _ (65, [(3, .int ((a 58).getD (0 : Int32).toNatClampNeg 0)), (2, .int ((a 57).getD (0 : Int32).toNatClampNeg 0)), (0, .ref 50), (1, .int x1)], [.int (bif decide (((ag1 51).getD ((a 57).getD (0 : Int32).toNatClampNeg 0).toNatClampNeg 0) < ((a 58).getD (0 : Int32).toNatClampNeg 0)) then ((ag1 51).getD ((a 57).getD (0 : Int32).toNatClampNeg 0).toNatClampNeg 0) else ((a 58).getD (0 : Int32).toNatClampNeg 0))], (0, 0), ks ig1 ag1 qg1 rg1) (by rfl) ?_
        generalize hm11 : (bif decide (((ag1 51).getD ((a 57).getD (0 : Int32).toNatClampNeg 0).toNatClampNeg 0) < ((a 58).getD (0 : Int32).toNatClampNeg 0)) then ((ag1 51).getD ((a 57).getD (0 : Int32).toNatClampNeg 0).toNatClampNeg 0) else ((a 58).getD (0 : Int32).toNatClampNeg 0)) = m11 at m12 ⊢
        have qm11 := hm11.symm
        refine fo_goL mi_k30 fz30_65_5_73 [(4, .int m11), (3, .int ((a 58).getD (0 : Int32).toNatClampNeg 0)), (2, .int ((a 57).getD (0 : Int32).toNatClampNeg 0)), (0, .ref 50), (1, .int x1)] [.int ((a 57).getD (0 : Int32).toNatClampNeg 0), .ref 51, .int ((a 57).getD (0 : Int32).toNatClampNeg 0), .ref 51] rfl ?_
        refine ko_iald3 mi_k30.1 (n := 8) (c := 8) (ax := (0, 0, 0, 0, 0)) (mi_k30.2 _ _ (by rfl)) (by rfl) (ksG51 _ _ _ _) (hGg1.I.2.1 51) rfl (ow4 z10.1) (ow5 fig1_3200.2 z10.2) ?_
        have b13 : ((-2147483648 : Int) ≤ ((ag1 51).getD ((a 57).getD (0 : Int32).toNatClampNeg 0).toNatClampNeg 0).toInt) ∧ (((ag1 51).getD ((a 57).getD (0 : Int32).toNatClampNeg 0).toNatClampNeg 0).toInt ≤ 2147483647) := kd_bd ((ag1 51).getD ((a 57).getD (0 : Int32).toNatClampNeg 0).toNatClampNeg 0)
        have b14 : ((-2147483648 : Int) ≤ m11.toInt) ∧ (m11.toInt ≤ 2147483647) := kd_bd m11
        refine fo_goS mi_k30 fz30_74_2_77 [.int (((ag1 51).getD ((a 57).getD (0 : Int32).toNatClampNeg 0).toNatClampNeg 0) - m11), .int ((a 57).getD (0 : Int32).toNatClampNeg 0), .ref 51] rfl ?_
        refine ko_iast3 mi_k30.1 (n := 8) (c := 8) (ax := (0, 0, 0, 0, 0)) (mi_k30.2 _ _ (by rfl)) (by rfl) (ksG51 _ _ _ _) (ksA51 _ _ _ _) (hGg1.I.2.1 51) rfl (ow4 z10.1) (ow5 fig1_3200.2 z10.2) ?_
        intro a15 ea15 fa15
        have hJ15 := kG_a3 hGg1 51 rfl ea15 fa15 (kd_bd _)
        refine fo_goS mi_k30 fz30_78_7_91 [.int x1, .ref 51, .int 999, .int x1, .ref 51] rfl ?_
        refine ko_iald3 mi_k30.1 (n := 8) (c := 8) (ax := (0, 0, 0, 0, 0)) (mi_k30.2 _ _ (by rfl)) (by rfl) (ksG51 _ _ _ _) (hJ15.I.2.1 51) rfl (ow4 hp0.1) (ow7 hp0.2) ?_
        have b16 : ((-2147483648 : Int) ≤ ((a15 51).getD x1.toNatClampNeg 0).toInt) ∧ (((a15 51).getD x1.toNatClampNeg 0).toInt ≤ 2147483647) := kd_bd ((a15 51).getD x1.toNatClampNeg 0)
        refine fo_goS mi_k30 fz30_92_2_95 [.int (((a15 51).getD x1.toNatClampNeg 0) + m11), .int 999, .int x1, .ref 51] rfl ?_
        have m18 : (((bif decide ((((a15 51).getD x1.toNatClampNeg 0) + m11) < 999) then (((a15 51).getD x1.toNatClampNeg 0) + m11) else 999).toInt ≤ (999 : Int32).toInt) ∧ ((bif decide ((((a15 51).getD x1.toNatClampNeg 0) + m11) < 999) then (((a15 51).getD x1.toNatClampNeg 0) + m11) else 999).toInt ≤ (((a15 51).getD x1.toNatClampNeg 0) + m11).toInt)) ∧ ((bif decide ((((a15 51).getD x1.toNatClampNeg 0) + m11) < 999) then (((a15 51).getD x1.toNatClampNeg 0) + m11) else 999).toInt = (999 : Int32).toInt ∨ (bif decide ((((a15 51).getD x1.toNatClampNeg 0) + m11) < 999) then (((a15 51).getD x1.toNatClampNeg 0) + m11) else 999).toInt = (((a15 51).getD x1.toNatClampNeg 0) + m11).toInt) := kd_min
        first | refine ft_goS mi_k30 1 98 [.int (bif decide ((((a15 51).getD x1.toNatClampNeg 0) + m11) < 999) then (((a15 51).getD x1.toNatClampNeg 0) + m11) else 999), .int x1, .ref 51] (by rfl) ?_ | refine ko_steps mi_in30 1 _ (98, [(4, .int m11), (3, .int ((a 58).getD (0 : Int32).toNatClampNeg 0)), (2, .int ((a 57).getD (0 : Int32).toNatClampNeg 0)), (0, .ref 50), (1, .int x1)], [.int (bif decide ((((a15 51).getD x1.toNatClampNeg 0) + m11) < 999) then (((a15 51).getD x1.toNatClampNeg 0) + m11) else 999), .int x1, .ref 51], (0, 0), ks ig1 a15 qg1 rg1) (by rfl) ?_
        generalize hm17 : (bif decide ((((a15 51).getD x1.toNatClampNeg 0) + m11) < 999) then (((a15 51).getD x1.toNatClampNeg 0) + m11) else 999) = m17 at m18 ⊢
        have qm17 := hm17.symm
        refine ko_iast3 mi_k30.1 (n := 8) (c := 8) (ax := (0, 0, 0, 0, 0)) (mi_k30.2 _ _ (by rfl)) (by rfl) (ksG51 _ _ _ _) (ksA51 _ _ _ _) (hJ15.I.2.1 51) rfl (ow4 hp0.1) (ow7 hp0.2) ?_
        intro a19 ea19 fa19
        have hJ19 := kG_a3 hJ15 51 rfl ea19 fa19 (kd_bd _)
        have b20 : ((-2147483648 : Int) ≤ (ig1 3215).toInt) ∧ ((ig1 3215).toInt ≤ 2147483647) := kd_bd (ig1 3215)
        have hJ21 := kG_i hJ19 3215 rfl (v := ((ig1 3215) + m11)) (kd_bd _)
        first | refine fo_goI mi_k30 fz30_99_10_116 [.int 2, .ref 63, .int 2, .ref 63] (ku ig1 3215 ((ig1 3215) + m11)) (by rfl) ?_ | refine ft_go mi_k30 10 116 [(4, .int m11), (3, .int ((a 58).getD (0 : Int32).toNatClampNeg 0)), (2, .int ((a 57).getD (0 : Int32).toNatClampNeg 0)), (0, .ref 50), (1, .int x1)] [.int 2, .ref 63, .int 2, .ref 63] (ku ig1 3215 ((ig1 3215) + m11)) a19 qg1 rg1 (by rfl) ?_ | refine ko_steps mi_in30 10 _ (116, [(4, .int m11), (3, .int ((a 58).getD (0 : Int32).toNatClampNeg 0)), (2, .int ((a 57).getD (0 : Int32).toNatClampNeg 0)), (0, .ref 50), (1, .int x1)], [.int 2, .ref 63, .int 2, .ref 63], (0, 0), ks (ku ig1 3215 ((ig1 3215) + m11)) a19 qg1 rg1) (by rfl) ?_
        refine ko_iald3 mi_k30.1 (n := 5) (c := 5) (ax := (0, 0, 0, 0, 0)) (mi_k30.2 _ _ (by rfl)) (by rfl) (ksG63 _ _ _ _) (hJ21.I.2.1 63) rfl (ow13 kow2) (ow92 kow2) ?_
        have b22 : ((-2147483648 : Int) ≤ ((a 58).getD (0 : Int32).toNatClampNeg 0).toInt) ∧ (((a 58).getD (0 : Int32).toNatClampNeg 0).toInt ≤ 2147483647) := kd_bd ((a 58).getD (0 : Int32).toNatClampNeg 0)
        have b23 : ((-2147483648 : Int) ≤ ((a19 63).getD (2 : Int32).toNatClampNeg 0).toInt) ∧ (((a19 63).getD (2 : Int32).toNatClampNeg 0).toInt ≤ 2147483647) := kd_bd ((a19 63).getD (2 : Int32).toNatClampNeg 0)
        have b24 : ((-2147483648 : Int) ≤ (((a 58).getD (0 : Int32).toNatClampNeg 0) - m11).toInt) ∧ ((((a 58).getD (0 : Int32).toNatClampNeg 0) - m11).toInt ≤ 2147483647) := kd_bd (((a 58).getD (0 : Int32).toNatClampNeg 0) - m11)
        refine fo_goS mi_k30 fz30_117_4_122 [.int (((a19 63).getD (2 : Int32).toNatClampNeg 0) + (((a 58).getD (0 : Int32).toNatClampNeg 0) - m11)), .int 2, .ref 63] rfl ?_
        refine ko_iast3 mi_k30.1 (n := 5) (c := 5) (ax := (0, 0, 0, 0, 0)) (mi_k30.2 _ _ (by rfl)) (by rfl) (ksG63 _ _ _ _) (ksA63 _ _ _ _) (hJ21.I.2.1 63) rfl (ow13 kow2) (ow92 kow2) ?_
        intro a25 ea25 fa25
        have hJ25 := kG_a3 hJ21 63 rfl ea25 fa25 (kd_bd _)
        refine fo_goS mi_k30 fz30_123_3_128 [.int ((a 57).getD (0 : Int32).toNatClampNeg 0), .ref 64] rfl ?_
        by_cases w26 : ((a 57).getD (0 : Int32).toNatClampNeg 0).toInt = 0
        ·
          refine ft_alx mi_k30 (pc := 128) (v := 0) (p := 64) (z := 65) (kj_eq w26 (by decide) : ((a 57).getD (0 : Int32).toNatClampNeg 0) = 0) (by decide +kernel) (by decide +kernel) ?_
          refine fo_goS mi_k30 fz30_129_2_131 [.int x1, .ref 65, .int x1, .ref 65] rfl ?_
          refine ko_iald3 mi_k30.1 (n := 8) (c := 8) (ax := (0, 0, 0, 0, 0)) (mi_k30.2 _ _ (by rfl)) (by rfl) (ksG65 _ _ _ _) (hJ25.I.2.1 65) rfl (ow4 hp0.1) (ow7 hp0.2) ?_
          have b27 : ((-2147483648 : Int) ≤ ((a25 65).getD x1.toNatClampNeg 0).toInt) ∧ (((a25 65).getD x1.toNatClampNeg 0).toInt ≤ 2147483647) := kd_bd ((a25 65).getD x1.toNatClampNeg 0)
          refine fo_goS mi_k30 fz30_132_2_135 [.int (((a25 65).getD x1.toNatClampNeg 0) + m11), .int x1, .ref 65] rfl ?_
          refine ko_iast3 mi_k30.1 (n := 8) (c := 8) (ax := (0, 0, 0, 0, 0)) (mi_k30.2 _ _ (by rfl)) (by rfl) (ksG65 _ _ _ _) (ksA65 _ _ _ _) (hJ25.I.2.1 65) rfl (ow4 hp0.1) (ow7 hp0.2) ?_
          intro a28 ea28 fa28
          have hJ28 := kG_a3 hJ25 65 rfl ea28 fa28 (kd_bd _)
          exact ft_ret mi_k30 (by rfl) (hP  _ _ _ _ hJ28 ⟨(ow89 z2), ((cT_eq (p := 50) (i := ku ig1 3215 ((ig1 3215) + m11)) (a := a28) (T := cGive x1 (cT 50 i a)) (show ig1 3586 = (cGive x1 (cT 50 i a)).1 from by first | rfl | (simp only [q3, sMn, sMx, cGive, cRest, cCoin, cT]; done) | (simp only [q3, sMn, sMx, cGive, cRest, cCoin, cT]; rfl)) (show a28 57 = (cGive x1 (cT 50 i a)).2.1 from by first | rfl | (simp only [fa28 57 (by decide), fa25 57 (by decide), fa19 57 (by decide), fa15 57 (by decide), q4, sMn, sMx, cGive, cRest, cCoin, cT]; done) | (simp only [fa28 57 (by decide), fa25 57 (by decide), fa19 57 (by decide), fa15 57 (by decide), q4, sMn, sMx, cGive, cRest, cCoin, cT]; rfl)) (show a28 58 = (cGive x1 (cT 50 i a)).2.2.1 from by first | rfl | (simp only [fa28 58 (by decide), fa25 58 (by decide), fa19 58 (by decide), fa15 58 (by decide), q5, sMn, sMx, cGive, cRest, cCoin, cT]; done) | (simp only [fa28 58 (by decide), fa25 58 (by decide), fa19 58 (by decide), fa15 58 (by decide), q5, sMn, sMx, cGive, cRest, cCoin, cT]; rfl)) (show a28 51 = (cGive x1 (cT 50 i a)).2.2.2.1 from by first | rfl | (simp only [fa28 51 (by decide), fa25 51 (by decide), ea19, ea15, qm17, qm11, kg1.fa 51 rfl, sMn, sMx, cGive, cRest, cCoin, cT]; done) | (simp only [fa28 51 (by decide), fa25 51 (by decide), ea19, ea15, qm17, qm11, kg1.fa 51 rfl, sMn, sMx, cGive, cRest, cCoin, cT]; rfl)) ((show ig1 3214 = i 3214 from (by first | rfl | (simp only [(show ig1 3214 = i 3214 from kg1.fi 3214 rfl), sMn, sMx]; done) | (simp only [(show ig1 3214 = i 3214 from kg1.fi 3214 rfl), sMn, sMx]; rfl))).trans (cY_neg (y := i 3214) (d := (a 57).getD 0 0) (ow91 c6 efig1_3214 kow8))) (show ((ig1 3215) + m11) = (cGive x1 (cT 50 i a)).2.2.2.2.2.1 from by first | rfl | (simp only [(show ig1 3215 = i 3215 from kg1.fi 3215 rfl), qm11, kg1.fa 51 rfl, sMn, sMx, cGive, cRest, cCoin, cT]; done) | (simp only [(show ig1 3215 = i 3215 from kg1.fi 3215 rfl), qm11, kg1.fa 51 rfl, sMn, sMx, cGive, cRest, cCoin, cT]; rfl)) (show a28 63 = (cGive x1 (cT 50 i a)).2.2.2.2.2.2.1 from by first | rfl | (simp only [fa28 63 (by decide), ea25, fa19 63 (by decide), qm11, kg1.fa 51 rfl, fa15 63 (by decide), kg1.fa 63 rfl, sMn, sMx, cGive, cRest, cCoin, cT]; done) | (simp only [fa28 63 (by decide), ea25, fa19 63 (by decide), qm11, kg1.fa 51 rfl, fa15 63 (by decide), kg1.fa 63 rfl, sMn, sMx, cGive, cRest, cCoin, cT]; rfl)) (fun u hu => match u, hu with | 0, _ => (Eq.trans (show a28 65 = (cRow 50 a 0).set x1.toNatClampNeg ((cRow 50 a 0).getD x1.toNatClampNeg 0 + cCoin (cT 50 i a)) from by rw [cRow_lt (p := 50) (a := a) (by decide : 0 < 8)]; first | rfl | (simp only [ea28, fa25 65 (by decide), qm11, kg1.fa 51 rfl, fa19 65 (by decide), fa15 65 (by decide), kg1.fa 65 rfl, sMn, sMx, cCoin, cT]; done) | (simp only [ea28, fa25 65 (by decide), qm11, kg1.fa 51 rfl, fa19 65 (by decide), fa15 65 (by decide), kg1.fa 65 rfl, sMn, sMx, cCoin, cT]; rfl)) (cG_t (c := x1) (T := (cT 50 i a)) (u := 0) (ow95 w26 z10.1))) | 1, _ => (Eq.trans (show a28 66 = cRow 50 a 1 from by rw [cRow_lt (p := 50) (a := a) (by decide : 1 < 8)]; first | rfl | (simp only [fa28 66 (by decide), fa25 66 (by decide), fa19 66 (by decide), fa15 66 (by decide), kg1.fa 66 rfl, sMn, sMx, cCoin, cT]; done) | (simp only [fa28 66 (by decide), fa25 66 (by decide), fa19 66 (by decide), fa15 66 (by decide), kg1.fa 66 rfl, sMn, sMx, cCoin, cT]; rfl)) (cG_f (c := x1) (T := (cT 50 i a)) (u := 1) (ow4 z10.1) (ow96 w26))) | 2, _ => (Eq.trans (show a28 67 = cRow 50 a 2 from by rw [cRow_lt (p := 50) (a := a) (by decide : 2 < 8)]; first | rfl | (simp only [fa28 67 (by decide), fa25 67 (by decide), fa19 67 (by decide), fa15 67 (by decide), kg1.fa 67 rfl, sMn, sMx, cCoin, cT]; done) | (simp only [fa28 67 (by decide), fa25 67 (by decide), fa19 67 (by decide), fa15 67 (by decide), kg1.fa 67 rfl, sMn, sMx, cCoin, cT]; rfl)) (cG_f (c := x1) (T := (cT 50 i a)) (u := 2) (ow4 z10.1) (ow97 w26))) | 3, _ => (Eq.trans (show a28 68 = cRow 50 a 3 from by rw [cRow_lt (p := 50) (a := a) (by decide : 3 < 8)]; first | rfl | (simp only [fa28 68 (by decide), fa25 68 (by decide), fa19 68 (by decide), fa15 68 (by decide), kg1.fa 68 rfl, sMn, sMx, cCoin, cT]; done) | (simp only [fa28 68 (by decide), fa25 68 (by decide), fa19 68 (by decide), fa15 68 (by decide), kg1.fa 68 rfl, sMn, sMx, cCoin, cT]; rfl)) (cG_f (c := x1) (T := (cT 50 i a)) (u := 3) (ow4 z10.1) (ow98 w26))) | 4, _ => (Eq.trans (show a28 69 = cRow 50 a 4 from by rw [cRow_lt (p := 50) (a := a) (by decide : 4 < 8)]; first | rfl | (simp only [fa28 69 (by decide), fa25 69 (by decide), fa19 69 (by decide), fa15 69 (by decide), kg1.fa 69 rfl, sMn, sMx, cCoin, cT]; done) | (simp only [fa28 69 (by decide), fa25 69 (by decide), fa19 69 (by decide), fa15 69 (by decide), kg1.fa 69 rfl, sMn, sMx, cCoin, cT]; rfl)) (cG_f (c := x1) (T := (cT 50 i a)) (u := 4) (ow4 z10.1) (ow99 w26))) | 5, _ => (Eq.trans (show a28 70 = cRow 50 a 5 from by rw [cRow_lt (p := 50) (a := a) (by decide : 5 < 8)]; first | rfl | (simp only [fa28 70 (by decide), fa25 70 (by decide), fa19 70 (by decide), fa15 70 (by decide), kg1.fa 70 rfl, sMn, sMx, cCoin, cT]; done) | (simp only [fa28 70 (by decide), fa25 70 (by decide), fa19 70 (by decide), fa15 70 (by decide), kg1.fa 70 rfl, sMn, sMx, cCoin, cT]; rfl)) (cG_f (c := x1) (T := (cT 50 i a)) (u := 5) (ow4 z10.1) (ow100 w26))) | 6, _ => (Eq.trans (show a28 71 = cRow 50 a 6 from by rw [cRow_lt (p := 50) (a := a) (by decide : 6 < 8)]; first | rfl | (simp only [fa28 71 (by decide), fa25 71 (by decide), fa19 71 (by decide), fa15 71 (by decide), kg1.fa 71 rfl, sMn, sMx, cCoin, cT]; done) | (simp only [fa28 71 (by decide), fa25 71 (by decide), fa19 71 (by decide), fa15 71 (by decide), kg1.fa 71 rfl, sMn, sMx, cCoin, cT]; rfl)) (cG_f (c := x1) (T := (cT 50 i a)) (u := 6) (ow4 z10.1) (ow101 w26))) | 7, _ => (Eq.trans (show a28 72 = cRow 50 a 7 from by rw [cRow_lt (p := 50) (a := a) (by decide : 7 < 8)]; first | rfl | (simp only [fa28 72 (by decide), fa25 72 (by decide), fa19 72 (by decide), fa15 72 (by decide), kg1.fa 72 rfl, sMn, sMx, cCoin, cT]; done) | (simp only [fa28 72 (by decide), fa25 72 (by decide), fa19 72 (by decide), fa15 72 (by decide), kg1.fa 72 rfl, sMn, sMx, cCoin, cT]; rfl)) (cG_f (c := x1) (T := (cT 50 i a)) (u := 7) (ow4 z10.1) (ow102 w26))) | _ + 8, h => absurd h (by omega)) (fun u hu => (cG_f (c := x1) (T := (cT 50 i a)) (ow4 z10.1) (kj_big hu (ow103 w26))).symm.trans (cRow_ge hu))).trans (show cGive x1 (cT 50 i a) = cPay (i 3200) x1 (cT 50 i a) from (if_pos (ow94 c8 efig1_3200 hp0.1 w26 z10.1 z10.2)).symm))⟩)
        by_cases w29 : ((a 57).getD (0 : Int32).toNatClampNeg 0).toInt = 1
        ·
          refine ft_alx mi_k30 (pc := 128) (v := 1) (p := 64) (z := 66) (kj_eq w29 (by decide) : ((a 57).getD (0 : Int32).toNatClampNeg 0) = 1) (by decide +kernel) (by decide +kernel) ?_
          refine fo_goS mi_k30 fz30_129_2_131 [.int x1, .ref 66, .int x1, .ref 66] rfl ?_
          refine ko_iald3 mi_k30.1 (n := 8) (c := 8) (ax := (0, 0, 0, 0, 0)) (mi_k30.2 _ _ (by rfl)) (by rfl) (ksG66 _ _ _ _) (hJ25.I.2.1 66) rfl (ow4 hp0.1) (ow7 hp0.2) ?_
          have b30 : ((-2147483648 : Int) ≤ ((a25 66).getD x1.toNatClampNeg 0).toInt) ∧ (((a25 66).getD x1.toNatClampNeg 0).toInt ≤ 2147483647) := kd_bd ((a25 66).getD x1.toNatClampNeg 0)
          refine fo_goS mi_k30 fz30_132_2_135 [.int (((a25 66).getD x1.toNatClampNeg 0) + m11), .int x1, .ref 66] rfl ?_
          refine ko_iast3 mi_k30.1 (n := 8) (c := 8) (ax := (0, 0, 0, 0, 0)) (mi_k30.2 _ _ (by rfl)) (by rfl) (ksG66 _ _ _ _) (ksA66 _ _ _ _) (hJ25.I.2.1 66) rfl (ow4 hp0.1) (ow7 hp0.2) ?_
          intro a31 ea31 fa31
          have hJ31 := kG_a3 hJ25 66 rfl ea31 fa31 (kd_bd _)
          exact ft_ret mi_k30 (by rfl) (hP  _ _ _ _ hJ31 ⟨(ow89 z2), ((cT_eq (p := 50) (i := ku ig1 3215 ((ig1 3215) + m11)) (a := a31) (T := cGive x1 (cT 50 i a)) (show ig1 3586 = (cGive x1 (cT 50 i a)).1 from by first | rfl | (simp only [q3, sMn, sMx, cGive, cRest, cCoin, cT]; done) | (simp only [q3, sMn, sMx, cGive, cRest, cCoin, cT]; rfl)) (show a31 57 = (cGive x1 (cT 50 i a)).2.1 from by first | rfl | (simp only [fa31 57 (by decide), fa25 57 (by decide), fa19 57 (by decide), fa15 57 (by decide), q4, sMn, sMx, cGive, cRest, cCoin, cT]; done) | (simp only [fa31 57 (by decide), fa25 57 (by decide), fa19 57 (by decide), fa15 57 (by decide), q4, sMn, sMx, cGive, cRest, cCoin, cT]; rfl)) (show a31 58 = (cGive x1 (cT 50 i a)).2.2.1 from by first | rfl | (simp only [fa31 58 (by decide), fa25 58 (by decide), fa19 58 (by decide), fa15 58 (by decide), q5, sMn, sMx, cGive, cRest, cCoin, cT]; done) | (simp only [fa31 58 (by decide), fa25 58 (by decide), fa19 58 (by decide), fa15 58 (by decide), q5, sMn, sMx, cGive, cRest, cCoin, cT]; rfl)) (show a31 51 = (cGive x1 (cT 50 i a)).2.2.2.1 from by first | rfl | (simp only [fa31 51 (by decide), fa25 51 (by decide), ea19, ea15, qm17, qm11, kg1.fa 51 rfl, sMn, sMx, cGive, cRest, cCoin, cT]; done) | (simp only [fa31 51 (by decide), fa25 51 (by decide), ea19, ea15, qm17, qm11, kg1.fa 51 rfl, sMn, sMx, cGive, cRest, cCoin, cT]; rfl)) ((show ig1 3214 = i 3214 from (by first | rfl | (simp only [(show ig1 3214 = i 3214 from kg1.fi 3214 rfl), sMn, sMx]; done) | (simp only [(show ig1 3214 = i 3214 from kg1.fi 3214 rfl), sMn, sMx]; rfl))).trans (cY_neg (y := i 3214) (d := (a 57).getD 0 0) (ow91 c6 efig1_3214 kow8))) (show ((ig1 3215) + m11) = (cGive x1 (cT 50 i a)).2.2.2.2.2.1 from by first | rfl | (simp only [(show ig1 3215 = i 3215 from kg1.fi 3215 rfl), qm11, kg1.fa 51 rfl, sMn, sMx, cGive, cRest, cCoin, cT]; done) | (simp only [(show ig1 3215 = i 3215 from kg1.fi 3215 rfl), qm11, kg1.fa 51 rfl, sMn, sMx, cGive, cRest, cCoin, cT]; rfl)) (show a31 63 = (cGive x1 (cT 50 i a)).2.2.2.2.2.2.1 from by first | rfl | (simp only [fa31 63 (by decide), ea25, fa19 63 (by decide), qm11, kg1.fa 51 rfl, fa15 63 (by decide), kg1.fa 63 rfl, sMn, sMx, cGive, cRest, cCoin, cT]; done) | (simp only [fa31 63 (by decide), ea25, fa19 63 (by decide), qm11, kg1.fa 51 rfl, fa15 63 (by decide), kg1.fa 63 rfl, sMn, sMx, cGive, cRest, cCoin, cT]; rfl)) (fun u hu => match u, hu with | 0, _ => (Eq.trans (show a31 65 = cRow 50 a 0 from by rw [cRow_lt (p := 50) (a := a) (by decide : 0 < 8)]; first | rfl | (simp only [fa31 65 (by decide), fa25 65 (by decide), fa19 65 (by decide), fa15 65 (by decide), kg1.fa 65 rfl, sMn, sMx, cCoin, cT]; done) | (simp only [fa31 65 (by decide), fa25 65 (by decide), fa19 65 (by decide), fa15 65 (by decide), kg1.fa 65 rfl, sMn, sMx, cCoin, cT]; rfl)) (cG_f (c := x1) (T := (cT 50 i a)) (u := 0) (ow11 w29) (ow105 w29))) | 1, _ => (Eq.trans (show a31 66 = (cRow 50 a 1).set x1.toNatClampNeg ((cRow 50 a 1).getD x1.toNatClampNeg 0 + cCoin (cT 50 i a)) from by rw [cRow_lt (p := 50) (a := a) (by decide : 1 < 8)]; first | rfl | (simp only [ea31, fa25 66 (by decide), qm11, kg1.fa 51 rfl, fa19 66 (by decide), fa15 66 (by decide), kg1.fa 66 rfl, sMn, sMx, cCoin, cT]; done) | (simp only [ea31, fa25 66 (by decide), qm11, kg1.fa 51 rfl, fa19 66 (by decide), fa15 66 (by decide), kg1.fa 66 rfl, sMn, sMx, cCoin, cT]; rfl)) (cG_t (c := x1) (T := (cT 50 i a)) (u := 1) (ow106 w29))) | 2, _ => (Eq.trans (show a31 67 = cRow 50 a 2 from by rw [cRow_lt (p := 50) (a := a) (by decide : 2 < 8)]; first | rfl | (simp only [fa31 67 (by decide), fa25 67 (by decide), fa19 67 (by decide), fa15 67 (by decide), kg1.fa 67 rfl, sMn, sMx, cCoin, cT]; done) | (simp only [fa31 67 (by decide), fa25 67 (by decide), fa19 67 (by decide), fa15 67 (by decide), kg1.fa 67 rfl, sMn, sMx, cCoin, cT]; rfl)) (cG_f (c := x1) (T := (cT 50 i a)) (u := 2) (ow11 w29) (ow107 w29))) | 3, _ => (Eq.trans (show a31 68 = cRow 50 a 3 from by rw [cRow_lt (p := 50) (a := a) (by decide : 3 < 8)]; first | rfl | (simp only [fa31 68 (by decide), fa25 68 (by decide), fa19 68 (by decide), fa15 68 (by decide), kg1.fa 68 rfl, sMn, sMx, cCoin, cT]; done) | (simp only [fa31 68 (by decide), fa25 68 (by decide), fa19 68 (by decide), fa15 68 (by decide), kg1.fa 68 rfl, sMn, sMx, cCoin, cT]; rfl)) (cG_f (c := x1) (T := (cT 50 i a)) (u := 3) (ow11 w29) (ow108 w29))) | 4, _ => (Eq.trans (show a31 69 = cRow 50 a 4 from by rw [cRow_lt (p := 50) (a := a) (by decide : 4 < 8)]; first | rfl | (simp only [fa31 69 (by decide), fa25 69 (by decide), fa19 69 (by decide), fa15 69 (by decide), kg1.fa 69 rfl, sMn, sMx, cCoin, cT]; done) | (simp only [fa31 69 (by decide), fa25 69 (by decide), fa19 69 (by decide), fa15 69 (by decide), kg1.fa 69 rfl, sMn, sMx, cCoin, cT]; rfl)) (cG_f (c := x1) (T := (cT 50 i a)) (u := 4) (ow11 w29) (ow109 w29))) | 5, _ => (Eq.trans (show a31 70 = cRow 50 a 5 from by rw [cRow_lt (p := 50) (a := a) (by decide : 5 < 8)]; first | rfl | (simp only [fa31 70 (by decide), fa25 70 (by decide), fa19 70 (by decide), fa15 70 (by decide), kg1.fa 70 rfl, sMn, sMx, cCoin, cT]; done) | (simp only [fa31 70 (by decide), fa25 70 (by decide), fa19 70 (by decide), fa15 70 (by decide), kg1.fa 70 rfl, sMn, sMx, cCoin, cT]; rfl)) (cG_f (c := x1) (T := (cT 50 i a)) (u := 5) (ow11 w29) (ow110 w29))) | 6, _ => (Eq.trans (show a31 71 = cRow 50 a 6 from by rw [cRow_lt (p := 50) (a := a) (by decide : 6 < 8)]; first | rfl | (simp only [fa31 71 (by decide), fa25 71 (by decide), fa19 71 (by decide), fa15 71 (by decide), kg1.fa 71 rfl, sMn, sMx, cCoin, cT]; done) | (simp only [fa31 71 (by decide), fa25 71 (by decide), fa19 71 (by decide), fa15 71 (by decide), kg1.fa 71 rfl, sMn, sMx, cCoin, cT]; rfl)) (cG_f (c := x1) (T := (cT 50 i a)) (u := 6) (ow11 w29) (ow111 w29))) | 7, _ => (Eq.trans (show a31 72 = cRow 50 a 7 from by rw [cRow_lt (p := 50) (a := a) (by decide : 7 < 8)]; first | rfl | (simp only [fa31 72 (by decide), fa25 72 (by decide), fa19 72 (by decide), fa15 72 (by decide), kg1.fa 72 rfl, sMn, sMx, cCoin, cT]; done) | (simp only [fa31 72 (by decide), fa25 72 (by decide), fa19 72 (by decide), fa15 72 (by decide), kg1.fa 72 rfl, sMn, sMx, cCoin, cT]; rfl)) (cG_f (c := x1) (T := (cT 50 i a)) (u := 7) (ow11 w29) (ow112 w29))) | _ + 8, h => absurd h (by omega)) (fun u hu => (cG_f (c := x1) (T := (cT 50 i a)) (ow11 w29) (kj_big hu (ow113 w29))).symm.trans (cRow_ge hu))).trans (show cGive x1 (cT 50 i a) = cPay (i 3200) x1 (cT 50 i a) from (if_pos (ow104 c8 efig1_3200 w29 z10.2)).symm))⟩)
        by_cases w32 : ((a 57).getD (0 : Int32).toNatClampNeg 0).toInt = 2
        ·
          refine ft_alx mi_k30 (pc := 128) (v := 2) (p := 64) (z := 67) (kj_eq w32 (by decide) : ((a 57).getD (0 : Int32).toNatClampNeg 0) = 2) (by decide +kernel) (by decide +kernel) ?_
          refine fo_goS mi_k30 fz30_129_2_131 [.int x1, .ref 67, .int x1, .ref 67] rfl ?_
          refine ko_iald3 mi_k30.1 (n := 8) (c := 8) (ax := (0, 0, 0, 0, 0)) (mi_k30.2 _ _ (by rfl)) (by rfl) (ksG67 _ _ _ _) (hJ25.I.2.1 67) rfl (ow4 hp0.1) (ow7 hp0.2) ?_
          have b33 : ((-2147483648 : Int) ≤ ((a25 67).getD x1.toNatClampNeg 0).toInt) ∧ (((a25 67).getD x1.toNatClampNeg 0).toInt ≤ 2147483647) := kd_bd ((a25 67).getD x1.toNatClampNeg 0)
          refine fo_goS mi_k30 fz30_132_2_135 [.int (((a25 67).getD x1.toNatClampNeg 0) + m11), .int x1, .ref 67] rfl ?_
          refine ko_iast3 mi_k30.1 (n := 8) (c := 8) (ax := (0, 0, 0, 0, 0)) (mi_k30.2 _ _ (by rfl)) (by rfl) (ksG67 _ _ _ _) (ksA67 _ _ _ _) (hJ25.I.2.1 67) rfl (ow4 hp0.1) (ow7 hp0.2) ?_
          intro a34 ea34 fa34
          have hJ34 := kG_a3 hJ25 67 rfl ea34 fa34 (kd_bd _)
          exact ft_ret mi_k30 (by rfl) (hP  _ _ _ _ hJ34 ⟨(ow89 z2), ((cT_eq (p := 50) (i := ku ig1 3215 ((ig1 3215) + m11)) (a := a34) (T := cGive x1 (cT 50 i a)) (show ig1 3586 = (cGive x1 (cT 50 i a)).1 from by first | rfl | (simp only [q3, sMn, sMx, cGive, cRest, cCoin, cT]; done) | (simp only [q3, sMn, sMx, cGive, cRest, cCoin, cT]; rfl)) (show a34 57 = (cGive x1 (cT 50 i a)).2.1 from by first | rfl | (simp only [fa34 57 (by decide), fa25 57 (by decide), fa19 57 (by decide), fa15 57 (by decide), q4, sMn, sMx, cGive, cRest, cCoin, cT]; done) | (simp only [fa34 57 (by decide), fa25 57 (by decide), fa19 57 (by decide), fa15 57 (by decide), q4, sMn, sMx, cGive, cRest, cCoin, cT]; rfl)) (show a34 58 = (cGive x1 (cT 50 i a)).2.2.1 from by first | rfl | (simp only [fa34 58 (by decide), fa25 58 (by decide), fa19 58 (by decide), fa15 58 (by decide), q5, sMn, sMx, cGive, cRest, cCoin, cT]; done) | (simp only [fa34 58 (by decide), fa25 58 (by decide), fa19 58 (by decide), fa15 58 (by decide), q5, sMn, sMx, cGive, cRest, cCoin, cT]; rfl)) (show a34 51 = (cGive x1 (cT 50 i a)).2.2.2.1 from by first | rfl | (simp only [fa34 51 (by decide), fa25 51 (by decide), ea19, ea15, qm17, qm11, kg1.fa 51 rfl, sMn, sMx, cGive, cRest, cCoin, cT]; done) | (simp only [fa34 51 (by decide), fa25 51 (by decide), ea19, ea15, qm17, qm11, kg1.fa 51 rfl, sMn, sMx, cGive, cRest, cCoin, cT]; rfl)) ((show ig1 3214 = i 3214 from (by first | rfl | (simp only [(show ig1 3214 = i 3214 from kg1.fi 3214 rfl), sMn, sMx]; done) | (simp only [(show ig1 3214 = i 3214 from kg1.fi 3214 rfl), sMn, sMx]; rfl))).trans (cY_neg (y := i 3214) (d := (a 57).getD 0 0) (ow91 c6 efig1_3214 kow8))) (show ((ig1 3215) + m11) = (cGive x1 (cT 50 i a)).2.2.2.2.2.1 from by first | rfl | (simp only [(show ig1 3215 = i 3215 from kg1.fi 3215 rfl), qm11, kg1.fa 51 rfl, sMn, sMx, cGive, cRest, cCoin, cT]; done) | (simp only [(show ig1 3215 = i 3215 from kg1.fi 3215 rfl), qm11, kg1.fa 51 rfl, sMn, sMx, cGive, cRest, cCoin, cT]; rfl)) (show a34 63 = (cGive x1 (cT 50 i a)).2.2.2.2.2.2.1 from by first | rfl | (simp only [fa34 63 (by decide), ea25, fa19 63 (by decide), qm11, kg1.fa 51 rfl, fa15 63 (by decide), kg1.fa 63 rfl, sMn, sMx, cGive, cRest, cCoin, cT]; done) | (simp only [fa34 63 (by decide), ea25, fa19 63 (by decide), qm11, kg1.fa 51 rfl, fa15 63 (by decide), kg1.fa 63 rfl, sMn, sMx, cGive, cRest, cCoin, cT]; rfl)) (fun u hu => match u, hu with | 0, _ => (Eq.trans (show a34 65 = cRow 50 a 0 from by rw [cRow_lt (p := 50) (a := a) (by decide : 0 < 8)]; first | rfl | (simp only [fa34 65 (by decide), fa25 65 (by decide), fa19 65 (by decide), fa15 65 (by decide), kg1.fa 65 rfl, sMn, sMx, cCoin, cT]; done) | (simp only [fa34 65 (by decide), fa25 65 (by decide), fa19 65 (by decide), fa15 65 (by decide), kg1.fa 65 rfl, sMn, sMx, cCoin, cT]; rfl)) (cG_f (c := x1) (T := (cT 50 i a)) (u := 0) (ow13 w32) (ow115 w32))) | 1, _ => (Eq.trans (show a34 66 = cRow 50 a 1 from by rw [cRow_lt (p := 50) (a := a) (by decide : 1 < 8)]; first | rfl | (simp only [fa34 66 (by decide), fa25 66 (by decide), fa19 66 (by decide), fa15 66 (by decide), kg1.fa 66 rfl, sMn, sMx, cCoin, cT]; done) | (simp only [fa34 66 (by decide), fa25 66 (by decide), fa19 66 (by decide), fa15 66 (by decide), kg1.fa 66 rfl, sMn, sMx, cCoin, cT]; rfl)) (cG_f (c := x1) (T := (cT 50 i a)) (u := 1) (ow13 w32) (ow116 w32))) | 2, _ => (Eq.trans (show a34 67 = (cRow 50 a 2).set x1.toNatClampNeg ((cRow 50 a 2).getD x1.toNatClampNeg 0 + cCoin (cT 50 i a)) from by rw [cRow_lt (p := 50) (a := a) (by decide : 2 < 8)]; first | rfl | (simp only [ea34, fa25 67 (by decide), qm11, kg1.fa 51 rfl, fa19 67 (by decide), fa15 67 (by decide), kg1.fa 67 rfl, sMn, sMx, cCoin, cT]; done) | (simp only [ea34, fa25 67 (by decide), qm11, kg1.fa 51 rfl, fa19 67 (by decide), fa15 67 (by decide), kg1.fa 67 rfl, sMn, sMx, cCoin, cT]; rfl)) (cG_t (c := x1) (T := (cT 50 i a)) (u := 2) (ow117 w32))) | 3, _ => (Eq.trans (show a34 68 = cRow 50 a 3 from by rw [cRow_lt (p := 50) (a := a) (by decide : 3 < 8)]; first | rfl | (simp only [fa34 68 (by decide), fa25 68 (by decide), fa19 68 (by decide), fa15 68 (by decide), kg1.fa 68 rfl, sMn, sMx, cCoin, cT]; done) | (simp only [fa34 68 (by decide), fa25 68 (by decide), fa19 68 (by decide), fa15 68 (by decide), kg1.fa 68 rfl, sMn, sMx, cCoin, cT]; rfl)) (cG_f (c := x1) (T := (cT 50 i a)) (u := 3) (ow13 w32) (ow118 w32))) | 4, _ => (Eq.trans (show a34 69 = cRow 50 a 4 from by rw [cRow_lt (p := 50) (a := a) (by decide : 4 < 8)]; first | rfl | (simp only [fa34 69 (by decide), fa25 69 (by decide), fa19 69 (by decide), fa15 69 (by decide), kg1.fa 69 rfl, sMn, sMx, cCoin, cT]; done) | (simp only [fa34 69 (by decide), fa25 69 (by decide), fa19 69 (by decide), fa15 69 (by decide), kg1.fa 69 rfl, sMn, sMx, cCoin, cT]; rfl)) (cG_f (c := x1) (T := (cT 50 i a)) (u := 4) (ow13 w32) (ow119 w32))) | 5, _ => (Eq.trans (show a34 70 = cRow 50 a 5 from by rw [cRow_lt (p := 50) (a := a) (by decide : 5 < 8)]; first | rfl | (simp only [fa34 70 (by decide), fa25 70 (by decide), fa19 70 (by decide), fa15 70 (by decide), kg1.fa 70 rfl, sMn, sMx, cCoin, cT]; done) | (simp only [fa34 70 (by decide), fa25 70 (by decide), fa19 70 (by decide), fa15 70 (by decide), kg1.fa 70 rfl, sMn, sMx, cCoin, cT]; rfl)) (cG_f (c := x1) (T := (cT 50 i a)) (u := 5) (ow13 w32) (ow120 w32))) | 6, _ => (Eq.trans (show a34 71 = cRow 50 a 6 from by rw [cRow_lt (p := 50) (a := a) (by decide : 6 < 8)]; first | rfl | (simp only [fa34 71 (by decide), fa25 71 (by decide), fa19 71 (by decide), fa15 71 (by decide), kg1.fa 71 rfl, sMn, sMx, cCoin, cT]; done) | (simp only [fa34 71 (by decide), fa25 71 (by decide), fa19 71 (by decide), fa15 71 (by decide), kg1.fa 71 rfl, sMn, sMx, cCoin, cT]; rfl)) (cG_f (c := x1) (T := (cT 50 i a)) (u := 6) (ow13 w32) (ow121 w32))) | 7, _ => (Eq.trans (show a34 72 = cRow 50 a 7 from by rw [cRow_lt (p := 50) (a := a) (by decide : 7 < 8)]; first | rfl | (simp only [fa34 72 (by decide), fa25 72 (by decide), fa19 72 (by decide), fa15 72 (by decide), kg1.fa 72 rfl, sMn, sMx, cCoin, cT]; done) | (simp only [fa34 72 (by decide), fa25 72 (by decide), fa19 72 (by decide), fa15 72 (by decide), kg1.fa 72 rfl, sMn, sMx, cCoin, cT]; rfl)) (cG_f (c := x1) (T := (cT 50 i a)) (u := 7) (ow13 w32) (ow122 w32))) | _ + 8, h => absurd h (by omega)) (fun u hu => (cG_f (c := x1) (T := (cT 50 i a)) (ow13 w32) (kj_big hu (ow123 w32))).symm.trans (cRow_ge hu))).trans (show cGive x1 (cT 50 i a) = cPay (i 3200) x1 (cT 50 i a) from (if_pos (ow114 c8 efig1_3200 w32 z10.2)).symm))⟩)
        by_cases w35 : ((a 57).getD (0 : Int32).toNatClampNeg 0).toInt = 3
        ·
          refine ft_alx mi_k30 (pc := 128) (v := 3) (p := 64) (z := 68) (kj_eq w35 (by decide) : ((a 57).getD (0 : Int32).toNatClampNeg 0) = 3) (by decide +kernel) (by decide +kernel) ?_
          refine fo_goS mi_k30 fz30_129_2_131 [.int x1, .ref 68, .int x1, .ref 68] rfl ?_
          refine ko_iald3 mi_k30.1 (n := 8) (c := 8) (ax := (0, 0, 0, 0, 0)) (mi_k30.2 _ _ (by rfl)) (by rfl) (ksG68 _ _ _ _) (hJ25.I.2.1 68) rfl (ow4 hp0.1) (ow7 hp0.2) ?_
          have b36 : ((-2147483648 : Int) ≤ ((a25 68).getD x1.toNatClampNeg 0).toInt) ∧ (((a25 68).getD x1.toNatClampNeg 0).toInt ≤ 2147483647) := kd_bd ((a25 68).getD x1.toNatClampNeg 0)
          refine fo_goS mi_k30 fz30_132_2_135 [.int (((a25 68).getD x1.toNatClampNeg 0) + m11), .int x1, .ref 68] rfl ?_
          refine ko_iast3 mi_k30.1 (n := 8) (c := 8) (ax := (0, 0, 0, 0, 0)) (mi_k30.2 _ _ (by rfl)) (by rfl) (ksG68 _ _ _ _) (ksA68 _ _ _ _) (hJ25.I.2.1 68) rfl (ow4 hp0.1) (ow7 hp0.2) ?_
          intro a37 ea37 fa37
          have hJ37 := kG_a3 hJ25 68 rfl ea37 fa37 (kd_bd _)
          exact ft_ret mi_k30 (by rfl) (hP  _ _ _ _ hJ37 ⟨(ow89 z2), ((cT_eq (p := 50) (i := ku ig1 3215 ((ig1 3215) + m11)) (a := a37) (T := cGive x1 (cT 50 i a)) (show ig1 3586 = (cGive x1 (cT 50 i a)).1 from by first | rfl | (simp only [q3, sMn, sMx, cGive, cRest, cCoin, cT]; done) | (simp only [q3, sMn, sMx, cGive, cRest, cCoin, cT]; rfl)) (show a37 57 = (cGive x1 (cT 50 i a)).2.1 from by first | rfl | (simp only [fa37 57 (by decide), fa25 57 (by decide), fa19 57 (by decide), fa15 57 (by decide), q4, sMn, sMx, cGive, cRest, cCoin, cT]; done) | (simp only [fa37 57 (by decide), fa25 57 (by decide), fa19 57 (by decide), fa15 57 (by decide), q4, sMn, sMx, cGive, cRest, cCoin, cT]; rfl)) (show a37 58 = (cGive x1 (cT 50 i a)).2.2.1 from by first | rfl | (simp only [fa37 58 (by decide), fa25 58 (by decide), fa19 58 (by decide), fa15 58 (by decide), q5, sMn, sMx, cGive, cRest, cCoin, cT]; done) | (simp only [fa37 58 (by decide), fa25 58 (by decide), fa19 58 (by decide), fa15 58 (by decide), q5, sMn, sMx, cGive, cRest, cCoin, cT]; rfl)) (show a37 51 = (cGive x1 (cT 50 i a)).2.2.2.1 from by first | rfl | (simp only [fa37 51 (by decide), fa25 51 (by decide), ea19, ea15, qm17, qm11, kg1.fa 51 rfl, sMn, sMx, cGive, cRest, cCoin, cT]; done) | (simp only [fa37 51 (by decide), fa25 51 (by decide), ea19, ea15, qm17, qm11, kg1.fa 51 rfl, sMn, sMx, cGive, cRest, cCoin, cT]; rfl)) ((show ig1 3214 = i 3214 from (by first | rfl | (simp only [(show ig1 3214 = i 3214 from kg1.fi 3214 rfl), sMn, sMx]; done) | (simp only [(show ig1 3214 = i 3214 from kg1.fi 3214 rfl), sMn, sMx]; rfl))).trans (cY_neg (y := i 3214) (d := (a 57).getD 0 0) (ow91 c6 efig1_3214 kow8))) (show ((ig1 3215) + m11) = (cGive x1 (cT 50 i a)).2.2.2.2.2.1 from by first | rfl | (simp only [(show ig1 3215 = i 3215 from kg1.fi 3215 rfl), qm11, kg1.fa 51 rfl, sMn, sMx, cGive, cRest, cCoin, cT]; done) | (simp only [(show ig1 3215 = i 3215 from kg1.fi 3215 rfl), qm11, kg1.fa 51 rfl, sMn, sMx, cGive, cRest, cCoin, cT]; rfl)) (show a37 63 = (cGive x1 (cT 50 i a)).2.2.2.2.2.2.1 from by first | rfl | (simp only [fa37 63 (by decide), ea25, fa19 63 (by decide), qm11, kg1.fa 51 rfl, fa15 63 (by decide), kg1.fa 63 rfl, sMn, sMx, cGive, cRest, cCoin, cT]; done) | (simp only [fa37 63 (by decide), ea25, fa19 63 (by decide), qm11, kg1.fa 51 rfl, fa15 63 (by decide), kg1.fa 63 rfl, sMn, sMx, cGive, cRest, cCoin, cT]; rfl)) (fun u hu => match u, hu with | 0, _ => (Eq.trans (show a37 65 = cRow 50 a 0 from by rw [cRow_lt (p := 50) (a := a) (by decide : 0 < 8)]; first | rfl | (simp only [fa37 65 (by decide), fa25 65 (by decide), fa19 65 (by decide), fa15 65 (by decide), kg1.fa 65 rfl, sMn, sMx, cCoin, cT]; done) | (simp only [fa37 65 (by decide), fa25 65 (by decide), fa19 65 (by decide), fa15 65 (by decide), kg1.fa 65 rfl, sMn, sMx, cCoin, cT]; rfl)) (cG_f (c := x1) (T := (cT 50 i a)) (u := 0) (ow15 w35) (ow125 w35))) | 1, _ => (Eq.trans (show a37 66 = cRow 50 a 1 from by rw [cRow_lt (p := 50) (a := a) (by decide : 1 < 8)]; first | rfl | (simp only [fa37 66 (by decide), fa25 66 (by decide), fa19 66 (by decide), fa15 66 (by decide), kg1.fa 66 rfl, sMn, sMx, cCoin, cT]; done) | (simp only [fa37 66 (by decide), fa25 66 (by decide), fa19 66 (by decide), fa15 66 (by decide), kg1.fa 66 rfl, sMn, sMx, cCoin, cT]; rfl)) (cG_f (c := x1) (T := (cT 50 i a)) (u := 1) (ow15 w35) (ow126 w35))) | 2, _ => (Eq.trans (show a37 67 = cRow 50 a 2 from by rw [cRow_lt (p := 50) (a := a) (by decide : 2 < 8)]; first | rfl | (simp only [fa37 67 (by decide), fa25 67 (by decide), fa19 67 (by decide), fa15 67 (by decide), kg1.fa 67 rfl, sMn, sMx, cCoin, cT]; done) | (simp only [fa37 67 (by decide), fa25 67 (by decide), fa19 67 (by decide), fa15 67 (by decide), kg1.fa 67 rfl, sMn, sMx, cCoin, cT]; rfl)) (cG_f (c := x1) (T := (cT 50 i a)) (u := 2) (ow15 w35) (ow127 w35))) | 3, _ => (Eq.trans (show a37 68 = (cRow 50 a 3).set x1.toNatClampNeg ((cRow 50 a 3).getD x1.toNatClampNeg 0 + cCoin (cT 50 i a)) from by rw [cRow_lt (p := 50) (a := a) (by decide : 3 < 8)]; first | rfl | (simp only [ea37, fa25 68 (by decide), qm11, kg1.fa 51 rfl, fa19 68 (by decide), fa15 68 (by decide), kg1.fa 68 rfl, sMn, sMx, cCoin, cT]; done) | (simp only [ea37, fa25 68 (by decide), qm11, kg1.fa 51 rfl, fa19 68 (by decide), fa15 68 (by decide), kg1.fa 68 rfl, sMn, sMx, cCoin, cT]; rfl)) (cG_t (c := x1) (T := (cT 50 i a)) (u := 3) (ow128 w35))) | 4, _ => (Eq.trans (show a37 69 = cRow 50 a 4 from by rw [cRow_lt (p := 50) (a := a) (by decide : 4 < 8)]; first | rfl | (simp only [fa37 69 (by decide), fa25 69 (by decide), fa19 69 (by decide), fa15 69 (by decide), kg1.fa 69 rfl, sMn, sMx, cCoin, cT]; done) | (simp only [fa37 69 (by decide), fa25 69 (by decide), fa19 69 (by decide), fa15 69 (by decide), kg1.fa 69 rfl, sMn, sMx, cCoin, cT]; rfl)) (cG_f (c := x1) (T := (cT 50 i a)) (u := 4) (ow15 w35) (ow129 w35))) | 5, _ => (Eq.trans (show a37 70 = cRow 50 a 5 from by rw [cRow_lt (p := 50) (a := a) (by decide : 5 < 8)]; first | rfl | (simp only [fa37 70 (by decide), fa25 70 (by decide), fa19 70 (by decide), fa15 70 (by decide), kg1.fa 70 rfl, sMn, sMx, cCoin, cT]; done) | (simp only [fa37 70 (by decide), fa25 70 (by decide), fa19 70 (by decide), fa15 70 (by decide), kg1.fa 70 rfl, sMn, sMx, cCoin, cT]; rfl)) (cG_f (c := x1) (T := (cT 50 i a)) (u := 5) (ow15 w35) (ow130 w35))) | 6, _ => (Eq.trans (show a37 71 = cRow 50 a 6 from by rw [cRow_lt (p := 50) (a := a) (by decide : 6 < 8)]; first | rfl | (simp only [fa37 71 (by decide), fa25 71 (by decide), fa19 71 (by decide), fa15 71 (by decide), kg1.fa 71 rfl, sMn, sMx, cCoin, cT]; done) | (simp only [fa37 71 (by decide), fa25 71 (by decide), fa19 71 (by decide), fa15 71 (by decide), kg1.fa 71 rfl, sMn, sMx, cCoin, cT]; rfl)) (cG_f (c := x1) (T := (cT 50 i a)) (u := 6) (ow15 w35) (ow131 w35))) | 7, _ => (Eq.trans (show a37 72 = cRow 50 a 7 from by rw [cRow_lt (p := 50) (a := a) (by decide : 7 < 8)]; first | rfl | (simp only [fa37 72 (by decide), fa25 72 (by decide), fa19 72 (by decide), fa15 72 (by decide), kg1.fa 72 rfl, sMn, sMx, cCoin, cT]; done) | (simp only [fa37 72 (by decide), fa25 72 (by decide), fa19 72 (by decide), fa15 72 (by decide), kg1.fa 72 rfl, sMn, sMx, cCoin, cT]; rfl)) (cG_f (c := x1) (T := (cT 50 i a)) (u := 7) (ow15 w35) (ow132 w35))) | _ + 8, h => absurd h (by omega)) (fun u hu => (cG_f (c := x1) (T := (cT 50 i a)) (ow15 w35) (kj_big hu (ow133 w35))).symm.trans (cRow_ge hu))).trans (show cGive x1 (cT 50 i a) = cPay (i 3200) x1 (cT 50 i a) from (if_pos (ow124 c8 efig1_3200 w35 z10.2)).symm))⟩)
        by_cases w38 : ((a 57).getD (0 : Int32).toNatClampNeg 0).toInt = 4
        ·
          refine ft_alx mi_k30 (pc := 128) (v := 4) (p := 64) (z := 69) (kj_eq w38 (by decide) : ((a 57).getD (0 : Int32).toNatClampNeg 0) = 4) (by decide +kernel) (by decide +kernel) ?_
          refine fo_goS mi_k30 fz30_129_2_131 [.int x1, .ref 69, .int x1, .ref 69] rfl ?_
          refine ko_iald3 mi_k30.1 (n := 8) (c := 8) (ax := (0, 0, 0, 0, 0)) (mi_k30.2 _ _ (by rfl)) (by rfl) (ksG69 _ _ _ _) (hJ25.I.2.1 69) rfl (ow4 hp0.1) (ow7 hp0.2) ?_
          have b39 : ((-2147483648 : Int) ≤ ((a25 69).getD x1.toNatClampNeg 0).toInt) ∧ (((a25 69).getD x1.toNatClampNeg 0).toInt ≤ 2147483647) := kd_bd ((a25 69).getD x1.toNatClampNeg 0)
          refine fo_goS mi_k30 fz30_132_2_135 [.int (((a25 69).getD x1.toNatClampNeg 0) + m11), .int x1, .ref 69] rfl ?_
          refine ko_iast3 mi_k30.1 (n := 8) (c := 8) (ax := (0, 0, 0, 0, 0)) (mi_k30.2 _ _ (by rfl)) (by rfl) (ksG69 _ _ _ _) (ksA69 _ _ _ _) (hJ25.I.2.1 69) rfl (ow4 hp0.1) (ow7 hp0.2) ?_
          intro a40 ea40 fa40
          have hJ40 := kG_a3 hJ25 69 rfl ea40 fa40 (kd_bd _)
          exact ft_ret mi_k30 (by rfl) (hP  _ _ _ _ hJ40 ⟨(ow89 z2), ((cT_eq (p := 50) (i := ku ig1 3215 ((ig1 3215) + m11)) (a := a40) (T := cGive x1 (cT 50 i a)) (show ig1 3586 = (cGive x1 (cT 50 i a)).1 from by first | rfl | (simp only [q3, sMn, sMx, cGive, cRest, cCoin, cT]; done) | (simp only [q3, sMn, sMx, cGive, cRest, cCoin, cT]; rfl)) (show a40 57 = (cGive x1 (cT 50 i a)).2.1 from by first | rfl | (simp only [fa40 57 (by decide), fa25 57 (by decide), fa19 57 (by decide), fa15 57 (by decide), q4, sMn, sMx, cGive, cRest, cCoin, cT]; done) | (simp only [fa40 57 (by decide), fa25 57 (by decide), fa19 57 (by decide), fa15 57 (by decide), q4, sMn, sMx, cGive, cRest, cCoin, cT]; rfl)) (show a40 58 = (cGive x1 (cT 50 i a)).2.2.1 from by first | rfl | (simp only [fa40 58 (by decide), fa25 58 (by decide), fa19 58 (by decide), fa15 58 (by decide), q5, sMn, sMx, cGive, cRest, cCoin, cT]; done) | (simp only [fa40 58 (by decide), fa25 58 (by decide), fa19 58 (by decide), fa15 58 (by decide), q5, sMn, sMx, cGive, cRest, cCoin, cT]; rfl)) (show a40 51 = (cGive x1 (cT 50 i a)).2.2.2.1 from by first | rfl | (simp only [fa40 51 (by decide), fa25 51 (by decide), ea19, ea15, qm17, qm11, kg1.fa 51 rfl, sMn, sMx, cGive, cRest, cCoin, cT]; done) | (simp only [fa40 51 (by decide), fa25 51 (by decide), ea19, ea15, qm17, qm11, kg1.fa 51 rfl, sMn, sMx, cGive, cRest, cCoin, cT]; rfl)) ((show ig1 3214 = i 3214 from (by first | rfl | (simp only [(show ig1 3214 = i 3214 from kg1.fi 3214 rfl), sMn, sMx]; done) | (simp only [(show ig1 3214 = i 3214 from kg1.fi 3214 rfl), sMn, sMx]; rfl))).trans (cY_neg (y := i 3214) (d := (a 57).getD 0 0) (ow91 c6 efig1_3214 kow8))) (show ((ig1 3215) + m11) = (cGive x1 (cT 50 i a)).2.2.2.2.2.1 from by first | rfl | (simp only [(show ig1 3215 = i 3215 from kg1.fi 3215 rfl), qm11, kg1.fa 51 rfl, sMn, sMx, cGive, cRest, cCoin, cT]; done) | (simp only [(show ig1 3215 = i 3215 from kg1.fi 3215 rfl), qm11, kg1.fa 51 rfl, sMn, sMx, cGive, cRest, cCoin, cT]; rfl)) (show a40 63 = (cGive x1 (cT 50 i a)).2.2.2.2.2.2.1 from by first | rfl | (simp only [fa40 63 (by decide), ea25, fa19 63 (by decide), qm11, kg1.fa 51 rfl, fa15 63 (by decide), kg1.fa 63 rfl, sMn, sMx, cGive, cRest, cCoin, cT]; done) | (simp only [fa40 63 (by decide), ea25, fa19 63 (by decide), qm11, kg1.fa 51 rfl, fa15 63 (by decide), kg1.fa 63 rfl, sMn, sMx, cGive, cRest, cCoin, cT]; rfl)) (fun u hu => match u, hu with | 0, _ => (Eq.trans (show a40 65 = cRow 50 a 0 from by rw [cRow_lt (p := 50) (a := a) (by decide : 0 < 8)]; first | rfl | (simp only [fa40 65 (by decide), fa25 65 (by decide), fa19 65 (by decide), fa15 65 (by decide), kg1.fa 65 rfl, sMn, sMx, cCoin, cT]; done) | (simp only [fa40 65 (by decide), fa25 65 (by decide), fa19 65 (by decide), fa15 65 (by decide), kg1.fa 65 rfl, sMn, sMx, cCoin, cT]; rfl)) (cG_f (c := x1) (T := (cT 50 i a)) (u := 0) (ow17 w38) (ow135 w38))) | 1, _ => (Eq.trans (show a40 66 = cRow 50 a 1 from by rw [cRow_lt (p := 50) (a := a) (by decide : 1 < 8)]; first | rfl | (simp only [fa40 66 (by decide), fa25 66 (by decide), fa19 66 (by decide), fa15 66 (by decide), kg1.fa 66 rfl, sMn, sMx, cCoin, cT]; done) | (simp only [fa40 66 (by decide), fa25 66 (by decide), fa19 66 (by decide), fa15 66 (by decide), kg1.fa 66 rfl, sMn, sMx, cCoin, cT]; rfl)) (cG_f (c := x1) (T := (cT 50 i a)) (u := 1) (ow17 w38) (ow136 w38))) | 2, _ => (Eq.trans (show a40 67 = cRow 50 a 2 from by rw [cRow_lt (p := 50) (a := a) (by decide : 2 < 8)]; first | rfl | (simp only [fa40 67 (by decide), fa25 67 (by decide), fa19 67 (by decide), fa15 67 (by decide), kg1.fa 67 rfl, sMn, sMx, cCoin, cT]; done) | (simp only [fa40 67 (by decide), fa25 67 (by decide), fa19 67 (by decide), fa15 67 (by decide), kg1.fa 67 rfl, sMn, sMx, cCoin, cT]; rfl)) (cG_f (c := x1) (T := (cT 50 i a)) (u := 2) (ow17 w38) (ow137 w38))) | 3, _ => (Eq.trans (show a40 68 = cRow 50 a 3 from by rw [cRow_lt (p := 50) (a := a) (by decide : 3 < 8)]; first | rfl | (simp only [fa40 68 (by decide), fa25 68 (by decide), fa19 68 (by decide), fa15 68 (by decide), kg1.fa 68 rfl, sMn, sMx, cCoin, cT]; done) | (simp only [fa40 68 (by decide), fa25 68 (by decide), fa19 68 (by decide), fa15 68 (by decide), kg1.fa 68 rfl, sMn, sMx, cCoin, cT]; rfl)) (cG_f (c := x1) (T := (cT 50 i a)) (u := 3) (ow17 w38) (ow138 w38))) | 4, _ => (Eq.trans (show a40 69 = (cRow 50 a 4).set x1.toNatClampNeg ((cRow 50 a 4).getD x1.toNatClampNeg 0 + cCoin (cT 50 i a)) from by rw [cRow_lt (p := 50) (a := a) (by decide : 4 < 8)]; first | rfl | (simp only [ea40, fa25 69 (by decide), qm11, kg1.fa 51 rfl, fa19 69 (by decide), fa15 69 (by decide), kg1.fa 69 rfl, sMn, sMx, cCoin, cT]; done) | (simp only [ea40, fa25 69 (by decide), qm11, kg1.fa 51 rfl, fa19 69 (by decide), fa15 69 (by decide), kg1.fa 69 rfl, sMn, sMx, cCoin, cT]; rfl)) (cG_t (c := x1) (T := (cT 50 i a)) (u := 4) (ow139 w38))) | 5, _ => (Eq.trans (show a40 70 = cRow 50 a 5 from by rw [cRow_lt (p := 50) (a := a) (by decide : 5 < 8)]; first | rfl | (simp only [fa40 70 (by decide), fa25 70 (by decide), fa19 70 (by decide), fa15 70 (by decide), kg1.fa 70 rfl, sMn, sMx, cCoin, cT]; done) | (simp only [fa40 70 (by decide), fa25 70 (by decide), fa19 70 (by decide), fa15 70 (by decide), kg1.fa 70 rfl, sMn, sMx, cCoin, cT]; rfl)) (cG_f (c := x1) (T := (cT 50 i a)) (u := 5) (ow17 w38) (ow140 w38))) | 6, _ => (Eq.trans (show a40 71 = cRow 50 a 6 from by rw [cRow_lt (p := 50) (a := a) (by decide : 6 < 8)]; first | rfl | (simp only [fa40 71 (by decide), fa25 71 (by decide), fa19 71 (by decide), fa15 71 (by decide), kg1.fa 71 rfl, sMn, sMx, cCoin, cT]; done) | (simp only [fa40 71 (by decide), fa25 71 (by decide), fa19 71 (by decide), fa15 71 (by decide), kg1.fa 71 rfl, sMn, sMx, cCoin, cT]; rfl)) (cG_f (c := x1) (T := (cT 50 i a)) (u := 6) (ow17 w38) (ow141 w38))) | 7, _ => (Eq.trans (show a40 72 = cRow 50 a 7 from by rw [cRow_lt (p := 50) (a := a) (by decide : 7 < 8)]; first | rfl | (simp only [fa40 72 (by decide), fa25 72 (by decide), fa19 72 (by decide), fa15 72 (by decide), kg1.fa 72 rfl, sMn, sMx, cCoin, cT]; done) | (simp only [fa40 72 (by decide), fa25 72 (by decide), fa19 72 (by decide), fa15 72 (by decide), kg1.fa 72 rfl, sMn, sMx, cCoin, cT]; rfl)) (cG_f (c := x1) (T := (cT 50 i a)) (u := 7) (ow17 w38) (ow142 w38))) | _ + 8, h => absurd h (by omega)) (fun u hu => (cG_f (c := x1) (T := (cT 50 i a)) (ow17 w38) (kj_big hu (ow143 w38))).symm.trans (cRow_ge hu))).trans (show cGive x1 (cT 50 i a) = cPay (i 3200) x1 (cT 50 i a) from (if_pos (ow134 c8 efig1_3200 w38 z10.2)).symm))⟩)
        by_cases w41 : ((a 57).getD (0 : Int32).toNatClampNeg 0).toInt = 5
        ·
          refine ft_alx mi_k30 (pc := 128) (v := 5) (p := 64) (z := 70) (kj_eq w41 (by decide) : ((a 57).getD (0 : Int32).toNatClampNeg 0) = 5) (by decide +kernel) (by decide +kernel) ?_
          refine fo_goS mi_k30 fz30_129_2_131 [.int x1, .ref 70, .int x1, .ref 70] rfl ?_
          refine ko_iald3 mi_k30.1 (n := 8) (c := 8) (ax := (0, 0, 0, 0, 0)) (mi_k30.2 _ _ (by rfl)) (by rfl) (ksG70 _ _ _ _) (hJ25.I.2.1 70) rfl (ow4 hp0.1) (ow7 hp0.2) ?_
          have b42 : ((-2147483648 : Int) ≤ ((a25 70).getD x1.toNatClampNeg 0).toInt) ∧ (((a25 70).getD x1.toNatClampNeg 0).toInt ≤ 2147483647) := kd_bd ((a25 70).getD x1.toNatClampNeg 0)
          refine fo_goS mi_k30 fz30_132_2_135 [.int (((a25 70).getD x1.toNatClampNeg 0) + m11), .int x1, .ref 70] rfl ?_
          refine ko_iast3 mi_k30.1 (n := 8) (c := 8) (ax := (0, 0, 0, 0, 0)) (mi_k30.2 _ _ (by rfl)) (by rfl) (ksG70 _ _ _ _) (ksA70 _ _ _ _) (hJ25.I.2.1 70) rfl (ow4 hp0.1) (ow7 hp0.2) ?_
          intro a43 ea43 fa43
          have hJ43 := kG_a3 hJ25 70 rfl ea43 fa43 (kd_bd _)
          exact ft_ret mi_k30 (by rfl) (hP  _ _ _ _ hJ43 ⟨(ow89 z2), ((cT_eq (p := 50) (i := ku ig1 3215 ((ig1 3215) + m11)) (a := a43) (T := cGive x1 (cT 50 i a)) (show ig1 3586 = (cGive x1 (cT 50 i a)).1 from by first | rfl | (simp only [q3, sMn, sMx, cGive, cRest, cCoin, cT]; done) | (simp only [q3, sMn, sMx, cGive, cRest, cCoin, cT]; rfl)) (show a43 57 = (cGive x1 (cT 50 i a)).2.1 from by first | rfl | (simp only [fa43 57 (by decide), fa25 57 (by decide), fa19 57 (by decide), fa15 57 (by decide), q4, sMn, sMx, cGive, cRest, cCoin, cT]; done) | (simp only [fa43 57 (by decide), fa25 57 (by decide), fa19 57 (by decide), fa15 57 (by decide), q4, sMn, sMx, cGive, cRest, cCoin, cT]; rfl)) (show a43 58 = (cGive x1 (cT 50 i a)).2.2.1 from by first | rfl | (simp only [fa43 58 (by decide), fa25 58 (by decide), fa19 58 (by decide), fa15 58 (by decide), q5, sMn, sMx, cGive, cRest, cCoin, cT]; done) | (simp only [fa43 58 (by decide), fa25 58 (by decide), fa19 58 (by decide), fa15 58 (by decide), q5, sMn, sMx, cGive, cRest, cCoin, cT]; rfl)) (show a43 51 = (cGive x1 (cT 50 i a)).2.2.2.1 from by first | rfl | (simp only [fa43 51 (by decide), fa25 51 (by decide), ea19, ea15, qm17, qm11, kg1.fa 51 rfl, sMn, sMx, cGive, cRest, cCoin, cT]; done) | (simp only [fa43 51 (by decide), fa25 51 (by decide), ea19, ea15, qm17, qm11, kg1.fa 51 rfl, sMn, sMx, cGive, cRest, cCoin, cT]; rfl)) ((show ig1 3214 = i 3214 from (by first | rfl | (simp only [(show ig1 3214 = i 3214 from kg1.fi 3214 rfl), sMn, sMx]; done) | (simp only [(show ig1 3214 = i 3214 from kg1.fi 3214 rfl), sMn, sMx]; rfl))).trans (cY_neg (y := i 3214) (d := (a 57).getD 0 0) (ow91 c6 efig1_3214 kow8))) (show ((ig1 3215) + m11) = (cGive x1 (cT 50 i a)).2.2.2.2.2.1 from by first | rfl | (simp only [(show ig1 3215 = i 3215 from kg1.fi 3215 rfl), qm11, kg1.fa 51 rfl, sMn, sMx, cGive, cRest, cCoin, cT]; done) | (simp only [(show ig1 3215 = i 3215 from kg1.fi 3215 rfl), qm11, kg1.fa 51 rfl, sMn, sMx, cGive, cRest, cCoin, cT]; rfl)) (show a43 63 = (cGive x1 (cT 50 i a)).2.2.2.2.2.2.1 from by first | rfl | (simp only [fa43 63 (by decide), ea25, fa19 63 (by decide), qm11, kg1.fa 51 rfl, fa15 63 (by decide), kg1.fa 63 rfl, sMn, sMx, cGive, cRest, cCoin, cT]; done) | (simp only [fa43 63 (by decide), ea25, fa19 63 (by decide), qm11, kg1.fa 51 rfl, fa15 63 (by decide), kg1.fa 63 rfl, sMn, sMx, cGive, cRest, cCoin, cT]; rfl)) (fun u hu => match u, hu with | 0, _ => (Eq.trans (show a43 65 = cRow 50 a 0 from by rw [cRow_lt (p := 50) (a := a) (by decide : 0 < 8)]; first | rfl | (simp only [fa43 65 (by decide), fa25 65 (by decide), fa19 65 (by decide), fa15 65 (by decide), kg1.fa 65 rfl, sMn, sMx, cCoin, cT]; done) | (simp only [fa43 65 (by decide), fa25 65 (by decide), fa19 65 (by decide), fa15 65 (by decide), kg1.fa 65 rfl, sMn, sMx, cCoin, cT]; rfl)) (cG_f (c := x1) (T := (cT 50 i a)) (u := 0) (ow19 w41) (ow145 w41))) | 1, _ => (Eq.trans (show a43 66 = cRow 50 a 1 from by rw [cRow_lt (p := 50) (a := a) (by decide : 1 < 8)]; first | rfl | (simp only [fa43 66 (by decide), fa25 66 (by decide), fa19 66 (by decide), fa15 66 (by decide), kg1.fa 66 rfl, sMn, sMx, cCoin, cT]; done) | (simp only [fa43 66 (by decide), fa25 66 (by decide), fa19 66 (by decide), fa15 66 (by decide), kg1.fa 66 rfl, sMn, sMx, cCoin, cT]; rfl)) (cG_f (c := x1) (T := (cT 50 i a)) (u := 1) (ow19 w41) (ow146 w41))) | 2, _ => (Eq.trans (show a43 67 = cRow 50 a 2 from by rw [cRow_lt (p := 50) (a := a) (by decide : 2 < 8)]; first | rfl | (simp only [fa43 67 (by decide), fa25 67 (by decide), fa19 67 (by decide), fa15 67 (by decide), kg1.fa 67 rfl, sMn, sMx, cCoin, cT]; done) | (simp only [fa43 67 (by decide), fa25 67 (by decide), fa19 67 (by decide), fa15 67 (by decide), kg1.fa 67 rfl, sMn, sMx, cCoin, cT]; rfl)) (cG_f (c := x1) (T := (cT 50 i a)) (u := 2) (ow19 w41) (ow147 w41))) | 3, _ => (Eq.trans (show a43 68 = cRow 50 a 3 from by rw [cRow_lt (p := 50) (a := a) (by decide : 3 < 8)]; first | rfl | (simp only [fa43 68 (by decide), fa25 68 (by decide), fa19 68 (by decide), fa15 68 (by decide), kg1.fa 68 rfl, sMn, sMx, cCoin, cT]; done) | (simp only [fa43 68 (by decide), fa25 68 (by decide), fa19 68 (by decide), fa15 68 (by decide), kg1.fa 68 rfl, sMn, sMx, cCoin, cT]; rfl)) (cG_f (c := x1) (T := (cT 50 i a)) (u := 3) (ow19 w41) (ow148 w41))) | 4, _ => (Eq.trans (show a43 69 = cRow 50 a 4 from by rw [cRow_lt (p := 50) (a := a) (by decide : 4 < 8)]; first | rfl | (simp only [fa43 69 (by decide), fa25 69 (by decide), fa19 69 (by decide), fa15 69 (by decide), kg1.fa 69 rfl, sMn, sMx, cCoin, cT]; done) | (simp only [fa43 69 (by decide), fa25 69 (by decide), fa19 69 (by decide), fa15 69 (by decide), kg1.fa 69 rfl, sMn, sMx, cCoin, cT]; rfl)) (cG_f (c := x1) (T := (cT 50 i a)) (u := 4) (ow19 w41) (ow149 w41))) | 5, _ => (Eq.trans (show a43 70 = (cRow 50 a 5).set x1.toNatClampNeg ((cRow 50 a 5).getD x1.toNatClampNeg 0 + cCoin (cT 50 i a)) from by rw [cRow_lt (p := 50) (a := a) (by decide : 5 < 8)]; first | rfl | (simp only [ea43, fa25 70 (by decide), qm11, kg1.fa 51 rfl, fa19 70 (by decide), fa15 70 (by decide), kg1.fa 70 rfl, sMn, sMx, cCoin, cT]; done) | (simp only [ea43, fa25 70 (by decide), qm11, kg1.fa 51 rfl, fa19 70 (by decide), fa15 70 (by decide), kg1.fa 70 rfl, sMn, sMx, cCoin, cT]; rfl)) (cG_t (c := x1) (T := (cT 50 i a)) (u := 5) (ow150 w41))) | 6, _ => (Eq.trans (show a43 71 = cRow 50 a 6 from by rw [cRow_lt (p := 50) (a := a) (by decide : 6 < 8)]; first | rfl | (simp only [fa43 71 (by decide), fa25 71 (by decide), fa19 71 (by decide), fa15 71 (by decide), kg1.fa 71 rfl, sMn, sMx, cCoin, cT]; done) | (simp only [fa43 71 (by decide), fa25 71 (by decide), fa19 71 (by decide), fa15 71 (by decide), kg1.fa 71 rfl, sMn, sMx, cCoin, cT]; rfl)) (cG_f (c := x1) (T := (cT 50 i a)) (u := 6) (ow19 w41) (ow151 w41))) | 7, _ => (Eq.trans (show a43 72 = cRow 50 a 7 from by rw [cRow_lt (p := 50) (a := a) (by decide : 7 < 8)]; first | rfl | (simp only [fa43 72 (by decide), fa25 72 (by decide), fa19 72 (by decide), fa15 72 (by decide), kg1.fa 72 rfl, sMn, sMx, cCoin, cT]; done) | (simp only [fa43 72 (by decide), fa25 72 (by decide), fa19 72 (by decide), fa15 72 (by decide), kg1.fa 72 rfl, sMn, sMx, cCoin, cT]; rfl)) (cG_f (c := x1) (T := (cT 50 i a)) (u := 7) (ow19 w41) (ow152 w41))) | _ + 8, h => absurd h (by omega)) (fun u hu => (cG_f (c := x1) (T := (cT 50 i a)) (ow19 w41) (kj_big hu (ow153 w41))).symm.trans (cRow_ge hu))).trans (show cGive x1 (cT 50 i a) = cPay (i 3200) x1 (cT 50 i a) from (if_pos (ow144 c8 efig1_3200 w41 z10.2)).symm))⟩)
        by_cases w44 : ((a 57).getD (0 : Int32).toNatClampNeg 0).toInt = 6
        ·
          refine ft_alx mi_k30 (pc := 128) (v := 6) (p := 64) (z := 71) (kj_eq w44 (by decide) : ((a 57).getD (0 : Int32).toNatClampNeg 0) = 6) (by decide +kernel) (by decide +kernel) ?_
          refine fo_goS mi_k30 fz30_129_2_131 [.int x1, .ref 71, .int x1, .ref 71] rfl ?_
          refine ko_iald3 mi_k30.1 (n := 8) (c := 8) (ax := (0, 0, 0, 0, 0)) (mi_k30.2 _ _ (by rfl)) (by rfl) (ksG71 _ _ _ _) (hJ25.I.2.1 71) rfl (ow4 hp0.1) (ow7 hp0.2) ?_
          have b45 : ((-2147483648 : Int) ≤ ((a25 71).getD x1.toNatClampNeg 0).toInt) ∧ (((a25 71).getD x1.toNatClampNeg 0).toInt ≤ 2147483647) := kd_bd ((a25 71).getD x1.toNatClampNeg 0)
          refine fo_goS mi_k30 fz30_132_2_135 [.int (((a25 71).getD x1.toNatClampNeg 0) + m11), .int x1, .ref 71] rfl ?_
          refine ko_iast3 mi_k30.1 (n := 8) (c := 8) (ax := (0, 0, 0, 0, 0)) (mi_k30.2 _ _ (by rfl)) (by rfl) (ksG71 _ _ _ _) (ksA71 _ _ _ _) (hJ25.I.2.1 71) rfl (ow4 hp0.1) (ow7 hp0.2) ?_
          intro a46 ea46 fa46
          have hJ46 := kG_a3 hJ25 71 rfl ea46 fa46 (kd_bd _)
          exact ft_ret mi_k30 (by rfl) (hP  _ _ _ _ hJ46 ⟨(ow89 z2), ((cT_eq (p := 50) (i := ku ig1 3215 ((ig1 3215) + m11)) (a := a46) (T := cGive x1 (cT 50 i a)) (show ig1 3586 = (cGive x1 (cT 50 i a)).1 from by first | rfl | (simp only [q3, sMn, sMx, cGive, cRest, cCoin, cT]; done) | (simp only [q3, sMn, sMx, cGive, cRest, cCoin, cT]; rfl)) (show a46 57 = (cGive x1 (cT 50 i a)).2.1 from by first | rfl | (simp only [fa46 57 (by decide), fa25 57 (by decide), fa19 57 (by decide), fa15 57 (by decide), q4, sMn, sMx, cGive, cRest, cCoin, cT]; done) | (simp only [fa46 57 (by decide), fa25 57 (by decide), fa19 57 (by decide), fa15 57 (by decide), q4, sMn, sMx, cGive, cRest, cCoin, cT]; rfl)) (show a46 58 = (cGive x1 (cT 50 i a)).2.2.1 from by first | rfl | (simp only [fa46 58 (by decide), fa25 58 (by decide), fa19 58 (by decide), fa15 58 (by decide), q5, sMn, sMx, cGive, cRest, cCoin, cT]; done) | (simp only [fa46 58 (by decide), fa25 58 (by decide), fa19 58 (by decide), fa15 58 (by decide), q5, sMn, sMx, cGive, cRest, cCoin, cT]; rfl)) (show a46 51 = (cGive x1 (cT 50 i a)).2.2.2.1 from by first | rfl | (simp only [fa46 51 (by decide), fa25 51 (by decide), ea19, ea15, qm17, qm11, kg1.fa 51 rfl, sMn, sMx, cGive, cRest, cCoin, cT]; done) | (simp only [fa46 51 (by decide), fa25 51 (by decide), ea19, ea15, qm17, qm11, kg1.fa 51 rfl, sMn, sMx, cGive, cRest, cCoin, cT]; rfl)) ((show ig1 3214 = i 3214 from (by first | rfl | (simp only [(show ig1 3214 = i 3214 from kg1.fi 3214 rfl), sMn, sMx]; done) | (simp only [(show ig1 3214 = i 3214 from kg1.fi 3214 rfl), sMn, sMx]; rfl))).trans (cY_neg (y := i 3214) (d := (a 57).getD 0 0) (ow91 c6 efig1_3214 kow8))) (show ((ig1 3215) + m11) = (cGive x1 (cT 50 i a)).2.2.2.2.2.1 from by first | rfl | (simp only [(show ig1 3215 = i 3215 from kg1.fi 3215 rfl), qm11, kg1.fa 51 rfl, sMn, sMx, cGive, cRest, cCoin, cT]; done) | (simp only [(show ig1 3215 = i 3215 from kg1.fi 3215 rfl), qm11, kg1.fa 51 rfl, sMn, sMx, cGive, cRest, cCoin, cT]; rfl)) (show a46 63 = (cGive x1 (cT 50 i a)).2.2.2.2.2.2.1 from by first | rfl | (simp only [fa46 63 (by decide), ea25, fa19 63 (by decide), qm11, kg1.fa 51 rfl, fa15 63 (by decide), kg1.fa 63 rfl, sMn, sMx, cGive, cRest, cCoin, cT]; done) | (simp only [fa46 63 (by decide), ea25, fa19 63 (by decide), qm11, kg1.fa 51 rfl, fa15 63 (by decide), kg1.fa 63 rfl, sMn, sMx, cGive, cRest, cCoin, cT]; rfl)) (fun u hu => match u, hu with | 0, _ => (Eq.trans (show a46 65 = cRow 50 a 0 from by rw [cRow_lt (p := 50) (a := a) (by decide : 0 < 8)]; first | rfl | (simp only [fa46 65 (by decide), fa25 65 (by decide), fa19 65 (by decide), fa15 65 (by decide), kg1.fa 65 rfl, sMn, sMx, cCoin, cT]; done) | (simp only [fa46 65 (by decide), fa25 65 (by decide), fa19 65 (by decide), fa15 65 (by decide), kg1.fa 65 rfl, sMn, sMx, cCoin, cT]; rfl)) (cG_f (c := x1) (T := (cT 50 i a)) (u := 0) (ow155 w44) (ow156 w44))) | 1, _ => (Eq.trans (show a46 66 = cRow 50 a 1 from by rw [cRow_lt (p := 50) (a := a) (by decide : 1 < 8)]; first | rfl | (simp only [fa46 66 (by decide), fa25 66 (by decide), fa19 66 (by decide), fa15 66 (by decide), kg1.fa 66 rfl, sMn, sMx, cCoin, cT]; done) | (simp only [fa46 66 (by decide), fa25 66 (by decide), fa19 66 (by decide), fa15 66 (by decide), kg1.fa 66 rfl, sMn, sMx, cCoin, cT]; rfl)) (cG_f (c := x1) (T := (cT 50 i a)) (u := 1) (ow155 w44) (ow157 w44))) | 2, _ => (Eq.trans (show a46 67 = cRow 50 a 2 from by rw [cRow_lt (p := 50) (a := a) (by decide : 2 < 8)]; first | rfl | (simp only [fa46 67 (by decide), fa25 67 (by decide), fa19 67 (by decide), fa15 67 (by decide), kg1.fa 67 rfl, sMn, sMx, cCoin, cT]; done) | (simp only [fa46 67 (by decide), fa25 67 (by decide), fa19 67 (by decide), fa15 67 (by decide), kg1.fa 67 rfl, sMn, sMx, cCoin, cT]; rfl)) (cG_f (c := x1) (T := (cT 50 i a)) (u := 2) (ow155 w44) (ow158 w44))) | 3, _ => (Eq.trans (show a46 68 = cRow 50 a 3 from by rw [cRow_lt (p := 50) (a := a) (by decide : 3 < 8)]; first | rfl | (simp only [fa46 68 (by decide), fa25 68 (by decide), fa19 68 (by decide), fa15 68 (by decide), kg1.fa 68 rfl, sMn, sMx, cCoin, cT]; done) | (simp only [fa46 68 (by decide), fa25 68 (by decide), fa19 68 (by decide), fa15 68 (by decide), kg1.fa 68 rfl, sMn, sMx, cCoin, cT]; rfl)) (cG_f (c := x1) (T := (cT 50 i a)) (u := 3) (ow155 w44) (ow159 w44))) | 4, _ => (Eq.trans (show a46 69 = cRow 50 a 4 from by rw [cRow_lt (p := 50) (a := a) (by decide : 4 < 8)]; first | rfl | (simp only [fa46 69 (by decide), fa25 69 (by decide), fa19 69 (by decide), fa15 69 (by decide), kg1.fa 69 rfl, sMn, sMx, cCoin, cT]; done) | (simp only [fa46 69 (by decide), fa25 69 (by decide), fa19 69 (by decide), fa15 69 (by decide), kg1.fa 69 rfl, sMn, sMx, cCoin, cT]; rfl)) (cG_f (c := x1) (T := (cT 50 i a)) (u := 4) (ow155 w44) (ow160 w44))) | 5, _ => (Eq.trans (show a46 70 = cRow 50 a 5 from by rw [cRow_lt (p := 50) (a := a) (by decide : 5 < 8)]; first | rfl | (simp only [fa46 70 (by decide), fa25 70 (by decide), fa19 70 (by decide), fa15 70 (by decide), kg1.fa 70 rfl, sMn, sMx, cCoin, cT]; done) | (simp only [fa46 70 (by decide), fa25 70 (by decide), fa19 70 (by decide), fa15 70 (by decide), kg1.fa 70 rfl, sMn, sMx, cCoin, cT]; rfl)) (cG_f (c := x1) (T := (cT 50 i a)) (u := 5) (ow155 w44) (ow161 w44))) | 6, _ => (Eq.trans (show a46 71 = (cRow 50 a 6).set x1.toNatClampNeg ((cRow 50 a 6).getD x1.toNatClampNeg 0 + cCoin (cT 50 i a)) from by rw [cRow_lt (p := 50) (a := a) (by decide : 6 < 8)]; first | rfl | (simp only [ea46, fa25 71 (by decide), qm11, kg1.fa 51 rfl, fa19 71 (by decide), fa15 71 (by decide), kg1.fa 71 rfl, sMn, sMx, cCoin, cT]; done) | (simp only [ea46, fa25 71 (by decide), qm11, kg1.fa 51 rfl, fa19 71 (by decide), fa15 71 (by decide), kg1.fa 71 rfl, sMn, sMx, cCoin, cT]; rfl)) (cG_t (c := x1) (T := (cT 50 i a)) (u := 6) (ow162 w44))) | 7, _ => (Eq.trans (show a46 72 = cRow 50 a 7 from by rw [cRow_lt (p := 50) (a := a) (by decide : 7 < 8)]; first | rfl | (simp only [fa46 72 (by decide), fa25 72 (by decide), fa19 72 (by decide), fa15 72 (by decide), kg1.fa 72 rfl, sMn, sMx, cCoin, cT]; done) | (simp only [fa46 72 (by decide), fa25 72 (by decide), fa19 72 (by decide), fa15 72 (by decide), kg1.fa 72 rfl, sMn, sMx, cCoin, cT]; rfl)) (cG_f (c := x1) (T := (cT 50 i a)) (u := 7) (ow155 w44) (ow163 w44))) | _ + 8, h => absurd h (by omega)) (fun u hu => (cG_f (c := x1) (T := (cT 50 i a)) (ow155 w44) (kj_big hu (ow164 w44))).symm.trans (cRow_ge hu))).trans (show cGive x1 (cT 50 i a) = cPay (i 3200) x1 (cT 50 i a) from (if_pos (ow154 c8 efig1_3200 w44 z10.2)).symm))⟩)
        by_cases w47 : ((a 57).getD (0 : Int32).toNatClampNeg 0).toInt = 7
        ·
          refine ft_alx mi_k30 (pc := 128) (v := 7) (p := 64) (z := 72) (kj_eq w47 (by decide) : ((a 57).getD (0 : Int32).toNatClampNeg 0) = 7) (by decide +kernel) (by decide +kernel) ?_
          refine fo_goS mi_k30 fz30_129_2_131 [.int x1, .ref 72, .int x1, .ref 72] rfl ?_
          refine ko_iald3 mi_k30.1 (n := 8) (c := 8) (ax := (0, 0, 0, 0, 0)) (mi_k30.2 _ _ (by rfl)) (by rfl) (ksG72 _ _ _ _) (hJ25.I.2.1 72) rfl (ow4 hp0.1) (ow7 hp0.2) ?_
          have b48 : ((-2147483648 : Int) ≤ ((a25 72).getD x1.toNatClampNeg 0).toInt) ∧ (((a25 72).getD x1.toNatClampNeg 0).toInt ≤ 2147483647) := kd_bd ((a25 72).getD x1.toNatClampNeg 0)
          refine fo_goS mi_k30 fz30_132_2_135 [.int (((a25 72).getD x1.toNatClampNeg 0) + m11), .int x1, .ref 72] rfl ?_
          refine ko_iast3 mi_k30.1 (n := 8) (c := 8) (ax := (0, 0, 0, 0, 0)) (mi_k30.2 _ _ (by rfl)) (by rfl) (ksG72 _ _ _ _) (ksA72 _ _ _ _) (hJ25.I.2.1 72) rfl (ow4 hp0.1) (ow7 hp0.2) ?_
          intro a49 ea49 fa49
          have hJ49 := kG_a3 hJ25 72 rfl ea49 fa49 (kd_bd _)
          exact ft_ret mi_k30 (by rfl) (hP  _ _ _ _ hJ49 ⟨(ow89 z2), ((cT_eq (p := 50) (i := ku ig1 3215 ((ig1 3215) + m11)) (a := a49) (T := cGive x1 (cT 50 i a)) (show ig1 3586 = (cGive x1 (cT 50 i a)).1 from by first | rfl | (simp only [q3, sMn, sMx, cGive, cRest, cCoin, cT]; done) | (simp only [q3, sMn, sMx, cGive, cRest, cCoin, cT]; rfl)) (show a49 57 = (cGive x1 (cT 50 i a)).2.1 from by first | rfl | (simp only [fa49 57 (by decide), fa25 57 (by decide), fa19 57 (by decide), fa15 57 (by decide), q4, sMn, sMx, cGive, cRest, cCoin, cT]; done) | (simp only [fa49 57 (by decide), fa25 57 (by decide), fa19 57 (by decide), fa15 57 (by decide), q4, sMn, sMx, cGive, cRest, cCoin, cT]; rfl)) (show a49 58 = (cGive x1 (cT 50 i a)).2.2.1 from by first | rfl | (simp only [fa49 58 (by decide), fa25 58 (by decide), fa19 58 (by decide), fa15 58 (by decide), q5, sMn, sMx, cGive, cRest, cCoin, cT]; done) | (simp only [fa49 58 (by decide), fa25 58 (by decide), fa19 58 (by decide), fa15 58 (by decide), q5, sMn, sMx, cGive, cRest, cCoin, cT]; rfl)) (show a49 51 = (cGive x1 (cT 50 i a)).2.2.2.1 from by first | rfl | (simp only [fa49 51 (by decide), fa25 51 (by decide), ea19, ea15, qm17, qm11, kg1.fa 51 rfl, sMn, sMx, cGive, cRest, cCoin, cT]; done) | (simp only [fa49 51 (by decide), fa25 51 (by decide), ea19, ea15, qm17, qm11, kg1.fa 51 rfl, sMn, sMx, cGive, cRest, cCoin, cT]; rfl)) ((show ig1 3214 = i 3214 from (by first | rfl | (simp only [(show ig1 3214 = i 3214 from kg1.fi 3214 rfl), sMn, sMx]; done) | (simp only [(show ig1 3214 = i 3214 from kg1.fi 3214 rfl), sMn, sMx]; rfl))).trans (cY_neg (y := i 3214) (d := (a 57).getD 0 0) (ow91 c6 efig1_3214 kow8))) (show ((ig1 3215) + m11) = (cGive x1 (cT 50 i a)).2.2.2.2.2.1 from by first | rfl | (simp only [(show ig1 3215 = i 3215 from kg1.fi 3215 rfl), qm11, kg1.fa 51 rfl, sMn, sMx, cGive, cRest, cCoin, cT]; done) | (simp only [(show ig1 3215 = i 3215 from kg1.fi 3215 rfl), qm11, kg1.fa 51 rfl, sMn, sMx, cGive, cRest, cCoin, cT]; rfl)) (show a49 63 = (cGive x1 (cT 50 i a)).2.2.2.2.2.2.1 from by first | rfl | (simp only [fa49 63 (by decide), ea25, fa19 63 (by decide), qm11, kg1.fa 51 rfl, fa15 63 (by decide), kg1.fa 63 rfl, sMn, sMx, cGive, cRest, cCoin, cT]; done) | (simp only [fa49 63 (by decide), ea25, fa19 63 (by decide), qm11, kg1.fa 51 rfl, fa15 63 (by decide), kg1.fa 63 rfl, sMn, sMx, cGive, cRest, cCoin, cT]; rfl)) (fun u hu => match u, hu with | 0, _ => (Eq.trans (show a49 65 = cRow 50 a 0 from by rw [cRow_lt (p := 50) (a := a) (by decide : 0 < 8)]; first | rfl | (simp only [fa49 65 (by decide), fa25 65 (by decide), fa19 65 (by decide), fa15 65 (by decide), kg1.fa 65 rfl, sMn, sMx, cCoin, cT]; done) | (simp only [fa49 65 (by decide), fa25 65 (by decide), fa19 65 (by decide), fa15 65 (by decide), kg1.fa 65 rfl, sMn, sMx, cCoin, cT]; rfl)) (cG_f (c := x1) (T := (cT 50 i a)) (u := 0) (ow166 w47) (ow167 w47))) | 1, _ => (Eq.trans (show a49 66 = cRow 50 a 1 from by rw [cRow_lt (p := 50) (a := a) (by decide : 1 < 8)]; first | rfl | (simp only [fa49 66 (by decide), fa25 66 (by decide), fa19 66 (by decide), fa15 66 (by decide), kg1.fa 66 rfl, sMn, sMx, cCoin, cT]; done) | (simp only [fa49 66 (by decide), fa25 66 (by decide), fa19 66 (by decide), fa15 66 (by decide), kg1.fa 66 rfl, sMn, sMx, cCoin, cT]; rfl)) (cG_f (c := x1) (T := (cT 50 i a)) (u := 1) (ow166 w47) (ow168 w47))) | 2, _ => (Eq.trans (show a49 67 = cRow 50 a 2 from by rw [cRow_lt (p := 50) (a := a) (by decide : 2 < 8)]; first | rfl | (simp only [fa49 67 (by decide), fa25 67 (by decide), fa19 67 (by decide), fa15 67 (by decide), kg1.fa 67 rfl, sMn, sMx, cCoin, cT]; done) | (simp only [fa49 67 (by decide), fa25 67 (by decide), fa19 67 (by decide), fa15 67 (by decide), kg1.fa 67 rfl, sMn, sMx, cCoin, cT]; rfl)) (cG_f (c := x1) (T := (cT 50 i a)) (u := 2) (ow166 w47) (ow169 w47))) | 3, _ => (Eq.trans (show a49 68 = cRow 50 a 3 from by rw [cRow_lt (p := 50) (a := a) (by decide : 3 < 8)]; first | rfl | (simp only [fa49 68 (by decide), fa25 68 (by decide), fa19 68 (by decide), fa15 68 (by decide), kg1.fa 68 rfl, sMn, sMx, cCoin, cT]; done) | (simp only [fa49 68 (by decide), fa25 68 (by decide), fa19 68 (by decide), fa15 68 (by decide), kg1.fa 68 rfl, sMn, sMx, cCoin, cT]; rfl)) (cG_f (c := x1) (T := (cT 50 i a)) (u := 3) (ow166 w47) (ow170 w47))) | 4, _ => (Eq.trans (show a49 69 = cRow 50 a 4 from by rw [cRow_lt (p := 50) (a := a) (by decide : 4 < 8)]; first | rfl | (simp only [fa49 69 (by decide), fa25 69 (by decide), fa19 69 (by decide), fa15 69 (by decide), kg1.fa 69 rfl, sMn, sMx, cCoin, cT]; done) | (simp only [fa49 69 (by decide), fa25 69 (by decide), fa19 69 (by decide), fa15 69 (by decide), kg1.fa 69 rfl, sMn, sMx, cCoin, cT]; rfl)) (cG_f (c := x1) (T := (cT 50 i a)) (u := 4) (ow166 w47) (ow171 w47))) | 5, _ => (Eq.trans (show a49 70 = cRow 50 a 5 from by rw [cRow_lt (p := 50) (a := a) (by decide : 5 < 8)]; first | rfl | (simp only [fa49 70 (by decide), fa25 70 (by decide), fa19 70 (by decide), fa15 70 (by decide), kg1.fa 70 rfl, sMn, sMx, cCoin, cT]; done) | (simp only [fa49 70 (by decide), fa25 70 (by decide), fa19 70 (by decide), fa15 70 (by decide), kg1.fa 70 rfl, sMn, sMx, cCoin, cT]; rfl)) (cG_f (c := x1) (T := (cT 50 i a)) (u := 5) (ow166 w47) (ow172 w47))) | 6, _ => (Eq.trans (show a49 71 = cRow 50 a 6 from by rw [cRow_lt (p := 50) (a := a) (by decide : 6 < 8)]; first | rfl | (simp only [fa49 71 (by decide), fa25 71 (by decide), fa19 71 (by decide), fa15 71 (by decide), kg1.fa 71 rfl, sMn, sMx, cCoin, cT]; done) | (simp only [fa49 71 (by decide), fa25 71 (by decide), fa19 71 (by decide), fa15 71 (by decide), kg1.fa 71 rfl, sMn, sMx, cCoin, cT]; rfl)) (cG_f (c := x1) (T := (cT 50 i a)) (u := 6) (ow166 w47) (ow173 w47))) | 7, _ => (Eq.trans (show a49 72 = (cRow 50 a 7).set x1.toNatClampNeg ((cRow 50 a 7).getD x1.toNatClampNeg 0 + cCoin (cT 50 i a)) from by rw [cRow_lt (p := 50) (a := a) (by decide : 7 < 8)]; first | rfl | (simp only [ea49, fa25 72 (by decide), qm11, kg1.fa 51 rfl, fa19 72 (by decide), fa15 72 (by decide), kg1.fa 72 rfl, sMn, sMx, cCoin, cT]; done) | (simp only [ea49, fa25 72 (by decide), qm11, kg1.fa 51 rfl, fa19 72 (by decide), fa15 72 (by decide), kg1.fa 72 rfl, sMn, sMx, cCoin, cT]; rfl)) (cG_t (c := x1) (T := (cT 50 i a)) (u := 7) (ow174 w47))) | _ + 8, h => absurd h (by omega)) (fun u hu => (cG_f (c := x1) (T := (cT 50 i a)) (ow166 w47) (kj_big hu (ow175 w47))).symm.trans (cRow_ge hu))).trans (show cGive x1 (cT 50 i a) = cPay (i 3200) x1 (cT 50 i a) from (if_pos (ow165 c8 efig1_3200 hp0.2 w47 z10.2)).symm))⟩)
        exact (ow176 fig1_3200.2 w26 w29 w32 w35 w38 w41 w44 w47 z10.1 z10.2).elim
      ·
        subst eg9
        have efig1_3200 : (ig1 3200).toInt = (i 3200).toInt := kg1.ti 3200 rfl
        have z50 : ¬ (((0 : Int) ≤ ((a 57).getD (0 : Int32).toNatClampNeg 0).toInt) ∧ (((a 57).getD (0 : Int32).toNatClampNeg 0).toInt < (ig1 3200).toInt)) := hg9
        first | refine fo_goS mi_k30 fz30_51_1_54 [] (by rfl) ?_ | refine ft_goS mi_k30 1 54 [] (by rfl) ?_ | refine ko_steps mi_in30 1 _ (54, [(3, .int ((a 58).getD (0 : Int32).toNatClampNeg 0)), (2, .int ((a 57).getD (0 : Int32).toNatClampNeg 0)), (0, .ref 50), (1, .int x1)], [], (0, 0), ks ig1 ag1 qg1 rg1) (by rfl) ?_
        exact ft_ret mi_k30 (by rfl) (hP  _ _ _ _ hGg1 ⟨(ow89 z2), ((cT_eq (p := 50) (i := ig1) (a := ag1) (T := cRest (cT 50 i a)) (show ig1 3586 = (cRest (cT 50 i a)).1 from by first | rfl | (simp only [q3, sMn, sMx, cGive, cRest, cCoin, cT]; done) | (simp only [q3, sMn, sMx, cGive, cRest, cCoin, cT]; rfl)) (show ag1 57 = (cRest (cT 50 i a)).2.1 from by first | rfl | (simp only [q4, sMn, sMx, cGive, cRest, cCoin, cT]; done) | (simp only [q4, sMn, sMx, cGive, cRest, cCoin, cT]; rfl)) (show ag1 58 = (cRest (cT 50 i a)).2.2.1 from by first | rfl | (simp only [q5, sMn, sMx, cGive, cRest, cCoin, cT]; done) | (simp only [q5, sMn, sMx, cGive, cRest, cCoin, cT]; rfl)) (show ag1 51 = (cRest (cT 50 i a)).2.2.2.1 from by first | rfl | (simp only [kg1.fa 51 rfl, sMn, sMx, cGive, cRest, cCoin, cT]; done) | (simp only [kg1.fa 51 rfl, sMn, sMx, cGive, cRest, cCoin, cT]; rfl)) ((show ig1 3214 = i 3214 from (by first | rfl | (simp only [(show ig1 3214 = i 3214 from kg1.fi 3214 rfl), sMn, sMx]; done) | (simp only [(show ig1 3214 = i 3214 from kg1.fi 3214 rfl), sMn, sMx]; rfl))).trans (cY_neg (y := i 3214) (d := (a 57).getD 0 0) (ow91 c6 efig1_3214 kow8))) (show ig1 3215 = (cRest (cT 50 i a)).2.2.2.2.2.1 from by first | rfl | (simp only [(show ig1 3215 = i 3215 from kg1.fi 3215 rfl), sMn, sMx, cGive, cRest, cCoin, cT]; done) | (simp only [(show ig1 3215 = i 3215 from kg1.fi 3215 rfl), sMn, sMx, cGive, cRest, cCoin, cT]; rfl)) (show ag1 63 = (cRest (cT 50 i a)).2.2.2.2.2.2.1 from by first | rfl | (simp only [kg1.fa 63 rfl, sMn, sMx, cGive, cRest, cCoin, cT]; done) | (simp only [kg1.fa 63 rfl, sMn, sMx, cGive, cRest, cCoin, cT]; rfl)) (fun u hu => match u, hu with | 0, _ => (show ag1 65 = cRow 50 a 0 from by rw [cRow_lt (p := 50) (a := a) (by decide : 0 < 8)]; first | rfl | (simp only [kg1.fa 65 rfl, sMn, sMx, cCoin, cT]; done) | (simp only [kg1.fa 65 rfl, sMn, sMx, cCoin, cT]; rfl)) | 1, _ => (show ag1 66 = cRow 50 a 1 from by rw [cRow_lt (p := 50) (a := a) (by decide : 1 < 8)]; first | rfl | (simp only [kg1.fa 66 rfl, sMn, sMx, cCoin, cT]; done) | (simp only [kg1.fa 66 rfl, sMn, sMx, cCoin, cT]; rfl)) | 2, _ => (show ag1 67 = cRow 50 a 2 from by rw [cRow_lt (p := 50) (a := a) (by decide : 2 < 8)]; first | rfl | (simp only [kg1.fa 67 rfl, sMn, sMx, cCoin, cT]; done) | (simp only [kg1.fa 67 rfl, sMn, sMx, cCoin, cT]; rfl)) | 3, _ => (show ag1 68 = cRow 50 a 3 from by rw [cRow_lt (p := 50) (a := a) (by decide : 3 < 8)]; first | rfl | (simp only [kg1.fa 68 rfl, sMn, sMx, cCoin, cT]; done) | (simp only [kg1.fa 68 rfl, sMn, sMx, cCoin, cT]; rfl)) | 4, _ => (show ag1 69 = cRow 50 a 4 from by rw [cRow_lt (p := 50) (a := a) (by decide : 4 < 8)]; first | rfl | (simp only [kg1.fa 69 rfl, sMn, sMx, cCoin, cT]; done) | (simp only [kg1.fa 69 rfl, sMn, sMx, cCoin, cT]; rfl)) | 5, _ => (show ag1 70 = cRow 50 a 5 from by rw [cRow_lt (p := 50) (a := a) (by decide : 5 < 8)]; first | rfl | (simp only [kg1.fa 70 rfl, sMn, sMx, cCoin, cT]; done) | (simp only [kg1.fa 70 rfl, sMn, sMx, cCoin, cT]; rfl)) | 6, _ => (show ag1 71 = cRow 50 a 6 from by rw [cRow_lt (p := 50) (a := a) (by decide : 6 < 8)]; first | rfl | (simp only [kg1.fa 71 rfl, sMn, sMx, cCoin, cT]; done) | (simp only [kg1.fa 71 rfl, sMn, sMx, cCoin, cT]; rfl)) | 7, _ => (show ag1 72 = cRow 50 a 7 from by rw [cRow_lt (p := 50) (a := a) (by decide : 7 < 8)]; first | rfl | (simp only [kg1.fa 72 rfl, sMn, sMx, cCoin, cT]; done) | (simp only [kg1.fa 72 rfl, sMn, sMx, cCoin, cT]; rfl)) | _ + 8, h => absurd h (by omega)) (fun u hu => cRow_ge hu)).trans (show cRest (cT 50 i a) = cPay (i 3200) x1 (cT 50 i a) from (if_neg (ow177 efig1_3200 z50)).symm))⟩)
  ·
    have c51 : (ig1 3214).toInt = (8 : Int32).toInt := kd_neF c; clear c
    have hJ52 := kG_i hGg1 3214 rfl (v := ((a 57).getD (0 : Int32).toNatClampNeg 0)) (kd_bd _)
    first | refine fo_goI mi_k30 fz30_36_5_43 [.int x1, .int ((a 57).getD (0 : Int32).toNatClampNeg 0)] (ku ig1 3214 ((a 57).getD (0 : Int32).toNatClampNeg 0)) (by rfl) ?_ | refine ft_goS mi_k30 5 43 [.int x1, .int ((a 57).getD (0 : Int32).toNatClampNeg 0)] (by rfl) ?_ | refine ft_go mi_k30 5 43 [(3, .int ((a 58).getD (0 : Int32).toNatClampNeg 0)), (2, .int ((a 57).getD (0 : Int32).toNatClampNeg 0)), (0, .ref 50), (1, .int x1)] [.int x1, .int ((a 57).getD (0 : Int32).toNatClampNeg 0)] (ku ig1 3214 ((a 57).getD (0 : Int32).toNatClampNeg 0)) ag1 qg1 rg1 (by rfl) ?_ | refine ko_steps mi_in30 5 _ (43, [(3, .int ((a 58).getD (0 : Int32).toNatClampNeg 0)), (2, .int ((a 57).getD (0 : Int32).toNatClampNeg 0)), (0, .ref 50), (1, .int x1)], [.int x1, .int ((a 57).getD (0 : Int32).toNatClampNeg 0)], (0, 0), ks (ku ig1 3214 ((a 57).getD (0 : Int32).toNatClampNeg 0)) ag1 qg1 rg1) (by rfl) ?_
    refine ft_ifS mi_k30 (((a 57).getD (0 : Int32).toNatClampNeg 0) == x1) 54 46 [] (by rfl) (fun c => ?_) (fun c => ?_)
    ·
      have c53 : ((a 57).getD (0 : Int32).toNatClampNeg 0).toInt = x1.toInt := kd_eq c; clear c
      exact ft_ret mi_k30 (by rfl) (hP  _ _ _ _ hJ52 ⟨(ow89 z2), ((cT_eq (p := 50) (i := ku ig1 3214 ((a 57).getD (0 : Int32).toNatClampNeg 0)) (a := ag1) (T := cRest (cT 50 i a)) (show ig1 3586 = (cRest (cT 50 i a)).1 from by first | rfl | (simp only [q3, sMn, sMx, cGive, cRest, cCoin, cT]; done) | (simp only [q3, sMn, sMx, cGive, cRest, cCoin, cT]; rfl)) (show ag1 57 = (cRest (cT 50 i a)).2.1 from by first | rfl | (simp only [q4, sMn, sMx, cGive, cRest, cCoin, cT]; done) | (simp only [q4, sMn, sMx, cGive, cRest, cCoin, cT]; rfl)) (show ag1 58 = (cRest (cT 50 i a)).2.2.1 from by first | rfl | (simp only [q5, sMn, sMx, cGive, cRest, cCoin, cT]; done) | (simp only [q5, sMn, sMx, cGive, cRest, cCoin, cT]; rfl)) (show ag1 51 = (cRest (cT 50 i a)).2.2.2.1 from by first | rfl | (simp only [kg1.fa 51 rfl, sMn, sMx, cGive, cRest, cCoin, cT]; done) | (simp only [kg1.fa 51 rfl, sMn, sMx, cGive, cRest, cCoin, cT]; rfl)) (cY_pos (y := i 3214) (d := (a 57).getD 0 0) (ow178 c51 efig1_3214 kow8)) (show ig1 3215 = (cRest (cT 50 i a)).2.2.2.2.2.1 from by first | rfl | (simp only [(show ig1 3215 = i 3215 from kg1.fi 3215 rfl), sMn, sMx, cGive, cRest, cCoin, cT]; done) | (simp only [(show ig1 3215 = i 3215 from kg1.fi 3215 rfl), sMn, sMx, cGive, cRest, cCoin, cT]; rfl)) (show ag1 63 = (cRest (cT 50 i a)).2.2.2.2.2.2.1 from by first | rfl | (simp only [kg1.fa 63 rfl, sMn, sMx, cGive, cRest, cCoin, cT]; done) | (simp only [kg1.fa 63 rfl, sMn, sMx, cGive, cRest, cCoin, cT]; rfl)) (fun u hu => match u, hu with | 0, _ => (show ag1 65 = cRow 50 a 0 from by rw [cRow_lt (p := 50) (a := a) (by decide : 0 < 8)]; first | rfl | (simp only [kg1.fa 65 rfl, sMn, sMx, cCoin, cT]; done) | (simp only [kg1.fa 65 rfl, sMn, sMx, cCoin, cT]; rfl)) | 1, _ => (show ag1 66 = cRow 50 a 1 from by rw [cRow_lt (p := 50) (a := a) (by decide : 1 < 8)]; first | rfl | (simp only [kg1.fa 66 rfl, sMn, sMx, cCoin, cT]; done) | (simp only [kg1.fa 66 rfl, sMn, sMx, cCoin, cT]; rfl)) | 2, _ => (show ag1 67 = cRow 50 a 2 from by rw [cRow_lt (p := 50) (a := a) (by decide : 2 < 8)]; first | rfl | (simp only [kg1.fa 67 rfl, sMn, sMx, cCoin, cT]; done) | (simp only [kg1.fa 67 rfl, sMn, sMx, cCoin, cT]; rfl)) | 3, _ => (show ag1 68 = cRow 50 a 3 from by rw [cRow_lt (p := 50) (a := a) (by decide : 3 < 8)]; first | rfl | (simp only [kg1.fa 68 rfl, sMn, sMx, cCoin, cT]; done) | (simp only [kg1.fa 68 rfl, sMn, sMx, cCoin, cT]; rfl)) | 4, _ => (show ag1 69 = cRow 50 a 4 from by rw [cRow_lt (p := 50) (a := a) (by decide : 4 < 8)]; first | rfl | (simp only [kg1.fa 69 rfl, sMn, sMx, cCoin, cT]; done) | (simp only [kg1.fa 69 rfl, sMn, sMx, cCoin, cT]; rfl)) | 5, _ => (show ag1 70 = cRow 50 a 5 from by rw [cRow_lt (p := 50) (a := a) (by decide : 5 < 8)]; first | rfl | (simp only [kg1.fa 70 rfl, sMn, sMx, cCoin, cT]; done) | (simp only [kg1.fa 70 rfl, sMn, sMx, cCoin, cT]; rfl)) | 6, _ => (show ag1 71 = cRow 50 a 6 from by rw [cRow_lt (p := 50) (a := a) (by decide : 6 < 8)]; first | rfl | (simp only [kg1.fa 71 rfl, sMn, sMx, cCoin, cT]; done) | (simp only [kg1.fa 71 rfl, sMn, sMx, cCoin, cT]; rfl)) | 7, _ => (show ag1 72 = cRow 50 a 7 from by rw [cRow_lt (p := 50) (a := a) (by decide : 7 < 8)]; first | rfl | (simp only [kg1.fa 72 rfl, sMn, sMx, cCoin, cT]; done) | (simp only [kg1.fa 72 rfl, sMn, sMx, cCoin, cT]; rfl)) | _ + 8, h => absurd h (by omega)) (fun u hu => cRow_ge hu)).trans (show cRest (cT 50 i a) = cPay (i 3200) x1 (cT 50 i a) from (if_neg (ow90 c53)).symm))⟩)
    ·
      have c54 : ((a 57).getD (0 : Int32).toNatClampNeg 0).toInt ≠ x1.toInt := kd_eqF c; clear c
      refine fo_goS mi_k30 fz30_46_2_48 [.int ((a 57).getD (0 : Int32).toNatClampNeg 0), .ref 50] rfl ?_
      refine ko_callPI mi_k30.1 (pc := 48) (ls := [(3, .int ((a 58).getD (0 : Int32).toNatClampNeg 0)), (2, .int ((a 57).getD (0 : Int32).toNatClampNeg 0)), (0, .ref 50), (1, .int x1)]) (st := [.int ((a 57).getD (0 : Int32).toNatClampNeg 0), .ref 50]) (h := ks (ku ig1 3214 ((a 57).getD (0 : Int32).toNatClampNeg 0)) ag1 qg1 rg1) (i := (.invokevirtual 85, 3, 24, 0, 9, 0, 165)) (mi_k30.2 _ _ (by rfl)) (ft_invS mi_pq24 (by rfl)) (cy := mi_c24) mi_pq24 rfl (kc24_50 hJ52.I hJ52.R ((a 57).getD (0 : Int32).toNatClampNeg 0)) (by decide) ?_
      intro vg55 hg55
      rcases hg55 with ⟨eg55, hg55⟩ | ⟨eg55, hg55⟩
      ·
        subst eg55
        have fig1_3200 : ((0 : Int) ≤ (ig1 3200).toInt) ∧ ((ig1 3200).toInt ≤ 8) := hJ52.I.1 3200
        have efig1_3200 : (ig1 3200).toInt = (i 3200).toInt := kg1.ti 3200 rfl
        have z56 : ((0 : Int) ≤ ((a 57).getD (0 : Int32).toNatClampNeg 0).toInt) ∧ (((a 57).getD (0 : Int32).toNatClampNeg 0).toInt < (ig1 3200).toInt) := hg55
        first | refine fo_goS mi_k30 fz30_51_5_61 [.int ((a 57).getD (0 : Int32).toNatClampNeg 0), .ref 51, .int ((a 58).getD (0 : Int32).toNatClampNeg 0)] (by rfl) ?_ | refine ft_goS mi_k30 5 61 [.int ((a 57).getD (0 : Int32).toNatClampNeg 0), .ref 51, .int ((a 58).getD (0 : Int32).toNatClampNeg 0)] (by rfl) ?_ | refine ko_steps mi_in30 5 _ (61, [(3, .int ((a 58).getD (0 : Int32).toNatClampNeg 0)), (2, .int ((a 57).getD (0 : Int32).toNatClampNeg 0)), (0, .ref 50), (1, .int x1)], [.int ((a 57).getD (0 : Int32).toNatClampNeg 0), .ref 51, .int ((a 58).getD (0 : Int32).toNatClampNeg 0)], (0, 0), ks (ku ig1 3214 ((a 57).getD (0 : Int32).toNatClampNeg 0)) ag1 qg1 rg1) (by rfl) ?_
        refine ko_iald3 mi_k30.1 (n := 8) (c := 8) (ax := (0, 0, 0, 0, 0)) (mi_k30.2 _ _ (by rfl)) (by rfl) (ksG51 _ _ _ _) (hJ52.I.2.1 51) rfl (ow4 z56.1) (ow5 fig1_3200.2 z56.2) ?_
        have m58 : (((bif decide (((ag1 51).getD ((a 57).getD (0 : Int32).toNatClampNeg 0).toNatClampNeg 0) < ((a 58).getD (0 : Int32).toNatClampNeg 0)) then ((ag1 51).getD ((a 57).getD (0 : Int32).toNatClampNeg 0).toNatClampNeg 0) else ((a 58).getD (0 : Int32).toNatClampNeg 0)).toInt ≤ ((a 58).getD (0 : Int32).toNatClampNeg 0).toInt) ∧ ((bif decide (((ag1 51).getD ((a 57).getD (0 : Int32).toNatClampNeg 0).toNatClampNeg 0) < ((a 58).getD (0 : Int32).toNatClampNeg 0)) then ((ag1 51).getD ((a 57).getD (0 : Int32).toNatClampNeg 0).toNatClampNeg 0) else ((a 58).getD (0 : Int32).toNatClampNeg 0)).toInt ≤ ((ag1 51).getD ((a 57).getD (0 : Int32).toNatClampNeg 0).toNatClampNeg 0).toInt)) ∧ ((bif decide (((ag1 51).getD ((a 57).getD (0 : Int32).toNatClampNeg 0).toNatClampNeg 0) < ((a 58).getD (0 : Int32).toNatClampNeg 0)) then ((ag1 51).getD ((a 57).getD (0 : Int32).toNatClampNeg 0).toNatClampNeg 0) else ((a 58).getD (0 : Int32).toNatClampNeg 0)).toInt = ((a 58).getD (0 : Int32).toNatClampNeg 0).toInt ∨ (bif decide (((ag1 51).getD ((a 57).getD (0 : Int32).toNatClampNeg 0).toNatClampNeg 0) < ((a 58).getD (0 : Int32).toNatClampNeg 0)) then ((ag1 51).getD ((a 57).getD (0 : Int32).toNatClampNeg 0).toNatClampNeg 0) else ((a 58).getD (0 : Int32).toNatClampNeg 0)).toInt = ((ag1 51).getD ((a 57).getD (0 : Int32).toNatClampNeg 0).toNatClampNeg 0).toInt) := kd_min
        first | refine ft_goS mi_k30 1 65 [.int (bif decide (((ag1 51).getD ((a 57).getD (0 : Int32).toNatClampNeg 0).toNatClampNeg 0) < ((a 58).getD (0 : Int32).toNatClampNeg 0)) then ((ag1 51).getD ((a 57).getD (0 : Int32).toNatClampNeg 0).toNatClampNeg 0) else ((a 58).getD (0 : Int32).toNatClampNeg 0))] (by rfl) ?_ | refine ko_steps mi_in30 1 _ (65, [(3, .int ((a 58).getD (0 : Int32).toNatClampNeg 0)), (2, .int ((a 57).getD (0 : Int32).toNatClampNeg 0)), (0, .ref 50), (1, .int x1)], [.int (bif decide (((ag1 51).getD ((a 57).getD (0 : Int32).toNatClampNeg 0).toNatClampNeg 0) < ((a 58).getD (0 : Int32).toNatClampNeg 0)) then ((ag1 51).getD ((a 57).getD (0 : Int32).toNatClampNeg 0).toNatClampNeg 0) else ((a 58).getD (0 : Int32).toNatClampNeg 0))], (0, 0), ks (ku ig1 3214 ((a 57).getD (0 : Int32).toNatClampNeg 0)) ag1 qg1 rg1) (by rfl) ?_
        generalize hm57 : (bif decide (((ag1 51).getD ((a 57).getD (0 : Int32).toNatClampNeg 0).toNatClampNeg 0) < ((a 58).getD (0 : Int32).toNatClampNeg 0)) then ((ag1 51).getD ((a 57).getD (0 : Int32).toNatClampNeg 0).toNatClampNeg 0) else ((a 58).getD (0 : Int32).toNatClampNeg 0)) = m57 at m58 ⊢
        have qm57 := hm57.symm
        refine fo_goL mi_k30 fz30_65_5_73 [(4, .int m57), (3, .int ((a 58).getD (0 : Int32).toNatClampNeg 0)), (2, .int ((a 57).getD (0 : Int32).toNatClampNeg 0)), (0, .ref 50), (1, .int x1)] [.int ((a 57).getD (0 : Int32).toNatClampNeg 0), .ref 51, .int ((a 57).getD (0 : Int32).toNatClampNeg 0), .ref 51] rfl ?_
        refine ko_iald3 mi_k30.1 (n := 8) (c := 8) (ax := (0, 0, 0, 0, 0)) (mi_k30.2 _ _ (by rfl)) (by rfl) (ksG51 _ _ _ _) (hJ52.I.2.1 51) rfl (ow4 z56.1) (ow5 fig1_3200.2 z56.2) ?_
        have b59 : ((-2147483648 : Int) ≤ ((ag1 51).getD ((a 57).getD (0 : Int32).toNatClampNeg 0).toNatClampNeg 0).toInt) ∧ (((ag1 51).getD ((a 57).getD (0 : Int32).toNatClampNeg 0).toNatClampNeg 0).toInt ≤ 2147483647) := kd_bd ((ag1 51).getD ((a 57).getD (0 : Int32).toNatClampNeg 0).toNatClampNeg 0)
        have b60 : ((-2147483648 : Int) ≤ m57.toInt) ∧ (m57.toInt ≤ 2147483647) := kd_bd m57
        refine fo_goS mi_k30 fz30_74_2_77 [.int (((ag1 51).getD ((a 57).getD (0 : Int32).toNatClampNeg 0).toNatClampNeg 0) - m57), .int ((a 57).getD (0 : Int32).toNatClampNeg 0), .ref 51] rfl ?_
        refine ko_iast3 mi_k30.1 (n := 8) (c := 8) (ax := (0, 0, 0, 0, 0)) (mi_k30.2 _ _ (by rfl)) (by rfl) (ksG51 _ _ _ _) (ksA51 _ _ _ _) (hJ52.I.2.1 51) rfl (ow4 z56.1) (ow5 fig1_3200.2 z56.2) ?_
        intro a61 ea61 fa61
        have hJ61 := kG_a3 hJ52 51 rfl ea61 fa61 (kd_bd _)
        refine fo_goS mi_k30 fz30_78_7_91 [.int x1, .ref 51, .int 999, .int x1, .ref 51] rfl ?_
        refine ko_iald3 mi_k30.1 (n := 8) (c := 8) (ax := (0, 0, 0, 0, 0)) (mi_k30.2 _ _ (by rfl)) (by rfl) (ksG51 _ _ _ _) (hJ61.I.2.1 51) rfl (ow4 hp0.1) (ow7 hp0.2) ?_
        have b62 : ((-2147483648 : Int) ≤ ((a61 51).getD x1.toNatClampNeg 0).toInt) ∧ (((a61 51).getD x1.toNatClampNeg 0).toInt ≤ 2147483647) := kd_bd ((a61 51).getD x1.toNatClampNeg 0)
        refine fo_goS mi_k30 fz30_92_2_95 [.int (((a61 51).getD x1.toNatClampNeg 0) + m57), .int 999, .int x1, .ref 51] rfl ?_
        have m64 : (((bif decide ((((a61 51).getD x1.toNatClampNeg 0) + m57) < 999) then (((a61 51).getD x1.toNatClampNeg 0) + m57) else 999).toInt ≤ (999 : Int32).toInt) ∧ ((bif decide ((((a61 51).getD x1.toNatClampNeg 0) + m57) < 999) then (((a61 51).getD x1.toNatClampNeg 0) + m57) else 999).toInt ≤ (((a61 51).getD x1.toNatClampNeg 0) + m57).toInt)) ∧ ((bif decide ((((a61 51).getD x1.toNatClampNeg 0) + m57) < 999) then (((a61 51).getD x1.toNatClampNeg 0) + m57) else 999).toInt = (999 : Int32).toInt ∨ (bif decide ((((a61 51).getD x1.toNatClampNeg 0) + m57) < 999) then (((a61 51).getD x1.toNatClampNeg 0) + m57) else 999).toInt = (((a61 51).getD x1.toNatClampNeg 0) + m57).toInt) := kd_min
        first | refine ft_goS mi_k30 1 98 [.int (bif decide ((((a61 51).getD x1.toNatClampNeg 0) + m57) < 999) then (((a61 51).getD x1.toNatClampNeg 0) + m57) else 999), .int x1, .ref 51] (by rfl) ?_ | refine ko_steps mi_in30 1 _ (98, [(4, .int m57), (3, .int ((a 58).getD (0 : Int32).toNatClampNeg 0)), (2, .int ((a 57).getD (0 : Int32).toNatClampNeg 0)), (0, .ref 50), (1, .int x1)], [.int (bif decide ((((a61 51).getD x1.toNatClampNeg 0) + m57) < 999) then (((a61 51).getD x1.toNatClampNeg 0) + m57) else 999), .int x1, .ref 51], (0, 0), ks (ku ig1 3214 ((a 57).getD (0 : Int32).toNatClampNeg 0)) a61 qg1 rg1) (by rfl) ?_
        generalize hm63 : (bif decide ((((a61 51).getD x1.toNatClampNeg 0) + m57) < 999) then (((a61 51).getD x1.toNatClampNeg 0) + m57) else 999) = m63 at m64 ⊢
        have qm63 := hm63.symm
        refine ko_iast3 mi_k30.1 (n := 8) (c := 8) (ax := (0, 0, 0, 0, 0)) (mi_k30.2 _ _ (by rfl)) (by rfl) (ksG51 _ _ _ _) (ksA51 _ _ _ _) (hJ61.I.2.1 51) rfl (ow4 hp0.1) (ow7 hp0.2) ?_
        intro a65 ea65 fa65
        have hJ65 := kG_a3 hJ61 51 rfl ea65 fa65 (kd_bd _)
        have b66 : ((-2147483648 : Int) ≤ (ig1 3215).toInt) ∧ ((ig1 3215).toInt ≤ 2147483647) := kd_bd (ig1 3215)
        have hJ67 := kG_i hJ65 3215 rfl (v := ((ig1 3215) + m57)) (kd_bd _)
        first | refine fo_goI mi_k30 fz30_99_10_116 [.int 2, .ref 63, .int 2, .ref 63] (ku (ku ig1 3214 ((a 57).getD (0 : Int32).toNatClampNeg 0)) 3215 ((ig1 3215) + m57)) (by rfl) ?_ | refine ft_go mi_k30 10 116 [(4, .int m57), (3, .int ((a 58).getD (0 : Int32).toNatClampNeg 0)), (2, .int ((a 57).getD (0 : Int32).toNatClampNeg 0)), (0, .ref 50), (1, .int x1)] [.int 2, .ref 63, .int 2, .ref 63] (ku (ku ig1 3214 ((a 57).getD (0 : Int32).toNatClampNeg 0)) 3215 ((ig1 3215) + m57)) a65 qg1 rg1 (by rfl) ?_ | refine ko_steps mi_in30 10 _ (116, [(4, .int m57), (3, .int ((a 58).getD (0 : Int32).toNatClampNeg 0)), (2, .int ((a 57).getD (0 : Int32).toNatClampNeg 0)), (0, .ref 50), (1, .int x1)], [.int 2, .ref 63, .int 2, .ref 63], (0, 0), ks (ku (ku ig1 3214 ((a 57).getD (0 : Int32).toNatClampNeg 0)) 3215 ((ig1 3215) + m57)) a65 qg1 rg1) (by rfl) ?_
        refine ko_iald3 mi_k30.1 (n := 5) (c := 5) (ax := (0, 0, 0, 0, 0)) (mi_k30.2 _ _ (by rfl)) (by rfl) (ksG63 _ _ _ _) (hJ67.I.2.1 63) rfl (ow13 kow2) (ow92 kow2) ?_
        have b68 : ((-2147483648 : Int) ≤ ((a 58).getD (0 : Int32).toNatClampNeg 0).toInt) ∧ (((a 58).getD (0 : Int32).toNatClampNeg 0).toInt ≤ 2147483647) := kd_bd ((a 58).getD (0 : Int32).toNatClampNeg 0)
        have b69 : ((-2147483648 : Int) ≤ ((a65 63).getD (2 : Int32).toNatClampNeg 0).toInt) ∧ (((a65 63).getD (2 : Int32).toNatClampNeg 0).toInt ≤ 2147483647) := kd_bd ((a65 63).getD (2 : Int32).toNatClampNeg 0)
        have b70 : ((-2147483648 : Int) ≤ (((a 58).getD (0 : Int32).toNatClampNeg 0) - m57).toInt) ∧ ((((a 58).getD (0 : Int32).toNatClampNeg 0) - m57).toInt ≤ 2147483647) := kd_bd (((a 58).getD (0 : Int32).toNatClampNeg 0) - m57)
        refine fo_goS mi_k30 fz30_117_4_122 [.int (((a65 63).getD (2 : Int32).toNatClampNeg 0) + (((a 58).getD (0 : Int32).toNatClampNeg 0) - m57)), .int 2, .ref 63] rfl ?_
        refine ko_iast3 mi_k30.1 (n := 5) (c := 5) (ax := (0, 0, 0, 0, 0)) (mi_k30.2 _ _ (by rfl)) (by rfl) (ksG63 _ _ _ _) (ksA63 _ _ _ _) (hJ67.I.2.1 63) rfl (ow13 kow2) (ow92 kow2) ?_
        intro a71 ea71 fa71
        have hJ71 := kG_a3 hJ67 63 rfl ea71 fa71 (kd_bd _)
        refine fo_goS mi_k30 fz30_123_3_128 [.int ((a 57).getD (0 : Int32).toNatClampNeg 0), .ref 64] rfl ?_
        by_cases w72 : ((a 57).getD (0 : Int32).toNatClampNeg 0).toInt = 0
        ·
          refine ft_alx mi_k30 (pc := 128) (v := 0) (p := 64) (z := 65) (kj_eq w72 (by decide) : ((a 57).getD (0 : Int32).toNatClampNeg 0) = 0) (by decide +kernel) (by decide +kernel) ?_
          refine fo_goS mi_k30 fz30_129_2_131 [.int x1, .ref 65, .int x1, .ref 65] rfl ?_
          refine ko_iald3 mi_k30.1 (n := 8) (c := 8) (ax := (0, 0, 0, 0, 0)) (mi_k30.2 _ _ (by rfl)) (by rfl) (ksG65 _ _ _ _) (hJ71.I.2.1 65) rfl (ow4 hp0.1) (ow7 hp0.2) ?_
          have b73 : ((-2147483648 : Int) ≤ ((a71 65).getD x1.toNatClampNeg 0).toInt) ∧ (((a71 65).getD x1.toNatClampNeg 0).toInt ≤ 2147483647) := kd_bd ((a71 65).getD x1.toNatClampNeg 0)
          refine fo_goS mi_k30 fz30_132_2_135 [.int (((a71 65).getD x1.toNatClampNeg 0) + m57), .int x1, .ref 65] rfl ?_
          refine ko_iast3 mi_k30.1 (n := 8) (c := 8) (ax := (0, 0, 0, 0, 0)) (mi_k30.2 _ _ (by rfl)) (by rfl) (ksG65 _ _ _ _) (ksA65 _ _ _ _) (hJ71.I.2.1 65) rfl (ow4 hp0.1) (ow7 hp0.2) ?_
          intro a74 ea74 fa74
          have hJ74 := kG_a3 hJ71 65 rfl ea74 fa74 (kd_bd _)
          exact ft_ret mi_k30 (by rfl) (hP  _ _ _ _ hJ74 ⟨(ow89 z2), ((cT_eq (p := 50) (i := ku (ku ig1 3214 ((a 57).getD (0 : Int32).toNatClampNeg 0)) 3215 ((ig1 3215) + m57)) (a := a74) (T := cGive x1 (cT 50 i a)) (show ig1 3586 = (cGive x1 (cT 50 i a)).1 from by first | rfl | (simp only [q3, sMn, sMx, cGive, cRest, cCoin, cT]; done) | (simp only [q3, sMn, sMx, cGive, cRest, cCoin, cT]; rfl)) (show a74 57 = (cGive x1 (cT 50 i a)).2.1 from by first | rfl | (simp only [fa74 57 (by decide), fa71 57 (by decide), fa65 57 (by decide), fa61 57 (by decide), q4, sMn, sMx, cGive, cRest, cCoin, cT]; done) | (simp only [fa74 57 (by decide), fa71 57 (by decide), fa65 57 (by decide), fa61 57 (by decide), q4, sMn, sMx, cGive, cRest, cCoin, cT]; rfl)) (show a74 58 = (cGive x1 (cT 50 i a)).2.2.1 from by first | rfl | (simp only [fa74 58 (by decide), fa71 58 (by decide), fa65 58 (by decide), fa61 58 (by decide), q5, sMn, sMx, cGive, cRest, cCoin, cT]; done) | (simp only [fa74 58 (by decide), fa71 58 (by decide), fa65 58 (by decide), fa61 58 (by decide), q5, sMn, sMx, cGive, cRest, cCoin, cT]; rfl)) (show a74 51 = (cGive x1 (cT 50 i a)).2.2.2.1 from by first | rfl | (simp only [fa74 51 (by decide), fa71 51 (by decide), ea65, ea61, qm63, qm57, kg1.fa 51 rfl, sMn, sMx, cGive, cRest, cCoin, cT]; done) | (simp only [fa74 51 (by decide), fa71 51 (by decide), ea65, ea61, qm63, qm57, kg1.fa 51 rfl, sMn, sMx, cGive, cRest, cCoin, cT]; rfl)) (cY_pos (y := i 3214) (d := (a 57).getD 0 0) (ow178 c51 efig1_3214 kow8)) (show ((ig1 3215) + m57) = (cGive x1 (cT 50 i a)).2.2.2.2.2.1 from by first | rfl | (simp only [(show ig1 3215 = i 3215 from kg1.fi 3215 rfl), qm57, kg1.fa 51 rfl, sMn, sMx, cGive, cRest, cCoin, cT]; done) | (simp only [(show ig1 3215 = i 3215 from kg1.fi 3215 rfl), qm57, kg1.fa 51 rfl, sMn, sMx, cGive, cRest, cCoin, cT]; rfl)) (show a74 63 = (cGive x1 (cT 50 i a)).2.2.2.2.2.2.1 from by first | rfl | (simp only [fa74 63 (by decide), ea71, fa65 63 (by decide), qm57, kg1.fa 51 rfl, fa61 63 (by decide), kg1.fa 63 rfl, sMn, sMx, cGive, cRest, cCoin, cT]; done) | (simp only [fa74 63 (by decide), ea71, fa65 63 (by decide), qm57, kg1.fa 51 rfl, fa61 63 (by decide), kg1.fa 63 rfl, sMn, sMx, cGive, cRest, cCoin, cT]; rfl)) (fun u hu => match u, hu with | 0, _ => (Eq.trans (show a74 65 = (cRow 50 a 0).set x1.toNatClampNeg ((cRow 50 a 0).getD x1.toNatClampNeg 0 + cCoin (cT 50 i a)) from by rw [cRow_lt (p := 50) (a := a) (by decide : 0 < 8)]; first | rfl | (simp only [ea74, fa71 65 (by decide), qm57, kg1.fa 51 rfl, fa65 65 (by decide), fa61 65 (by decide), kg1.fa 65 rfl, sMn, sMx, cCoin, cT]; done) | (simp only [ea74, fa71 65 (by decide), qm57, kg1.fa 51 rfl, fa65 65 (by decide), fa61 65 (by decide), kg1.fa 65 rfl, sMn, sMx, cCoin, cT]; rfl)) (cG_t (c := x1) (T := (cT 50 i a)) (u := 0) (ow95 w72 z56.1))) | 1, _ => (Eq.trans (show a74 66 = cRow 50 a 1 from by rw [cRow_lt (p := 50) (a := a) (by decide : 1 < 8)]; first | rfl | (simp only [fa74 66 (by decide), fa71 66 (by decide), fa65 66 (by decide), fa61 66 (by decide), kg1.fa 66 rfl, sMn, sMx, cCoin, cT]; done) | (simp only [fa74 66 (by decide), fa71 66 (by decide), fa65 66 (by decide), fa61 66 (by decide), kg1.fa 66 rfl, sMn, sMx, cCoin, cT]; rfl)) (cG_f (c := x1) (T := (cT 50 i a)) (u := 1) (ow4 z56.1) (ow96 w72))) | 2, _ => (Eq.trans (show a74 67 = cRow 50 a 2 from by rw [cRow_lt (p := 50) (a := a) (by decide : 2 < 8)]; first | rfl | (simp only [fa74 67 (by decide), fa71 67 (by decide), fa65 67 (by decide), fa61 67 (by decide), kg1.fa 67 rfl, sMn, sMx, cCoin, cT]; done) | (simp only [fa74 67 (by decide), fa71 67 (by decide), fa65 67 (by decide), fa61 67 (by decide), kg1.fa 67 rfl, sMn, sMx, cCoin, cT]; rfl)) (cG_f (c := x1) (T := (cT 50 i a)) (u := 2) (ow4 z56.1) (ow97 w72))) | 3, _ => (Eq.trans (show a74 68 = cRow 50 a 3 from by rw [cRow_lt (p := 50) (a := a) (by decide : 3 < 8)]; first | rfl | (simp only [fa74 68 (by decide), fa71 68 (by decide), fa65 68 (by decide), fa61 68 (by decide), kg1.fa 68 rfl, sMn, sMx, cCoin, cT]; done) | (simp only [fa74 68 (by decide), fa71 68 (by decide), fa65 68 (by decide), fa61 68 (by decide), kg1.fa 68 rfl, sMn, sMx, cCoin, cT]; rfl)) (cG_f (c := x1) (T := (cT 50 i a)) (u := 3) (ow4 z56.1) (ow98 w72))) | 4, _ => (Eq.trans (show a74 69 = cRow 50 a 4 from by rw [cRow_lt (p := 50) (a := a) (by decide : 4 < 8)]; first | rfl | (simp only [fa74 69 (by decide), fa71 69 (by decide), fa65 69 (by decide), fa61 69 (by decide), kg1.fa 69 rfl, sMn, sMx, cCoin, cT]; done) | (simp only [fa74 69 (by decide), fa71 69 (by decide), fa65 69 (by decide), fa61 69 (by decide), kg1.fa 69 rfl, sMn, sMx, cCoin, cT]; rfl)) (cG_f (c := x1) (T := (cT 50 i a)) (u := 4) (ow4 z56.1) (ow99 w72))) | 5, _ => (Eq.trans (show a74 70 = cRow 50 a 5 from by rw [cRow_lt (p := 50) (a := a) (by decide : 5 < 8)]; first | rfl | (simp only [fa74 70 (by decide), fa71 70 (by decide), fa65 70 (by decide), fa61 70 (by decide), kg1.fa 70 rfl, sMn, sMx, cCoin, cT]; done) | (simp only [fa74 70 (by decide), fa71 70 (by decide), fa65 70 (by decide), fa61 70 (by decide), kg1.fa 70 rfl, sMn, sMx, cCoin, cT]; rfl)) (cG_f (c := x1) (T := (cT 50 i a)) (u := 5) (ow4 z56.1) (ow100 w72))) | 6, _ => (Eq.trans (show a74 71 = cRow 50 a 6 from by rw [cRow_lt (p := 50) (a := a) (by decide : 6 < 8)]; first | rfl | (simp only [fa74 71 (by decide), fa71 71 (by decide), fa65 71 (by decide), fa61 71 (by decide), kg1.fa 71 rfl, sMn, sMx, cCoin, cT]; done) | (simp only [fa74 71 (by decide), fa71 71 (by decide), fa65 71 (by decide), fa61 71 (by decide), kg1.fa 71 rfl, sMn, sMx, cCoin, cT]; rfl)) (cG_f (c := x1) (T := (cT 50 i a)) (u := 6) (ow4 z56.1) (ow101 w72))) | 7, _ => (Eq.trans (show a74 72 = cRow 50 a 7 from by rw [cRow_lt (p := 50) (a := a) (by decide : 7 < 8)]; first | rfl | (simp only [fa74 72 (by decide), fa71 72 (by decide), fa65 72 (by decide), fa61 72 (by decide), kg1.fa 72 rfl, sMn, sMx, cCoin, cT]; done) | (simp only [fa74 72 (by decide), fa71 72 (by decide), fa65 72 (by decide), fa61 72 (by decide), kg1.fa 72 rfl, sMn, sMx, cCoin, cT]; rfl)) (cG_f (c := x1) (T := (cT 50 i a)) (u := 7) (ow4 z56.1) (ow102 w72))) | _ + 8, h => absurd h (by omega)) (fun u hu => (cG_f (c := x1) (T := (cT 50 i a)) (ow4 z56.1) (kj_big hu (ow103 w72))).symm.trans (cRow_ge hu))).trans (show cGive x1 (cT 50 i a) = cPay (i 3200) x1 (cT 50 i a) from (if_pos (ow94 c54 efig1_3200 hp0.1 w72 z56.1 z56.2)).symm))⟩)
        by_cases w75 : ((a 57).getD (0 : Int32).toNatClampNeg 0).toInt = 1
        ·
          refine ft_alx mi_k30 (pc := 128) (v := 1) (p := 64) (z := 66) (kj_eq w75 (by decide) : ((a 57).getD (0 : Int32).toNatClampNeg 0) = 1) (by decide +kernel) (by decide +kernel) ?_
          refine fo_goS mi_k30 fz30_129_2_131 [.int x1, .ref 66, .int x1, .ref 66] rfl ?_
          refine ko_iald3 mi_k30.1 (n := 8) (c := 8) (ax := (0, 0, 0, 0, 0)) (mi_k30.2 _ _ (by rfl)) (by rfl) (ksG66 _ _ _ _) (hJ71.I.2.1 66) rfl (ow4 hp0.1) (ow7 hp0.2) ?_
          have b76 : ((-2147483648 : Int) ≤ ((a71 66).getD x1.toNatClampNeg 0).toInt) ∧ (((a71 66).getD x1.toNatClampNeg 0).toInt ≤ 2147483647) := kd_bd ((a71 66).getD x1.toNatClampNeg 0)
          refine fo_goS mi_k30 fz30_132_2_135 [.int (((a71 66).getD x1.toNatClampNeg 0) + m57), .int x1, .ref 66] rfl ?_
          refine ko_iast3 mi_k30.1 (n := 8) (c := 8) (ax := (0, 0, 0, 0, 0)) (mi_k30.2 _ _ (by rfl)) (by rfl) (ksG66 _ _ _ _) (ksA66 _ _ _ _) (hJ71.I.2.1 66) rfl (ow4 hp0.1) (ow7 hp0.2) ?_
          intro a77 ea77 fa77
          have hJ77 := kG_a3 hJ71 66 rfl ea77 fa77 (kd_bd _)
          exact ft_ret mi_k30 (by rfl) (hP  _ _ _ _ hJ77 ⟨(ow89 z2), ((cT_eq (p := 50) (i := ku (ku ig1 3214 ((a 57).getD (0 : Int32).toNatClampNeg 0)) 3215 ((ig1 3215) + m57)) (a := a77) (T := cGive x1 (cT 50 i a)) (show ig1 3586 = (cGive x1 (cT 50 i a)).1 from by first | rfl | (simp only [q3, sMn, sMx, cGive, cRest, cCoin, cT]; done) | (simp only [q3, sMn, sMx, cGive, cRest, cCoin, cT]; rfl)) (show a77 57 = (cGive x1 (cT 50 i a)).2.1 from by first | rfl | (simp only [fa77 57 (by decide), fa71 57 (by decide), fa65 57 (by decide), fa61 57 (by decide), q4, sMn, sMx, cGive, cRest, cCoin, cT]; done) | (simp only [fa77 57 (by decide), fa71 57 (by decide), fa65 57 (by decide), fa61 57 (by decide), q4, sMn, sMx, cGive, cRest, cCoin, cT]; rfl)) (show a77 58 = (cGive x1 (cT 50 i a)).2.2.1 from by first | rfl | (simp only [fa77 58 (by decide), fa71 58 (by decide), fa65 58 (by decide), fa61 58 (by decide), q5, sMn, sMx, cGive, cRest, cCoin, cT]; done) | (simp only [fa77 58 (by decide), fa71 58 (by decide), fa65 58 (by decide), fa61 58 (by decide), q5, sMn, sMx, cGive, cRest, cCoin, cT]; rfl)) (show a77 51 = (cGive x1 (cT 50 i a)).2.2.2.1 from by first | rfl | (simp only [fa77 51 (by decide), fa71 51 (by decide), ea65, ea61, qm63, qm57, kg1.fa 51 rfl, sMn, sMx, cGive, cRest, cCoin, cT]; done) | (simp only [fa77 51 (by decide), fa71 51 (by decide), ea65, ea61, qm63, qm57, kg1.fa 51 rfl, sMn, sMx, cGive, cRest, cCoin, cT]; rfl)) (cY_pos (y := i 3214) (d := (a 57).getD 0 0) (ow178 c51 efig1_3214 kow8)) (show ((ig1 3215) + m57) = (cGive x1 (cT 50 i a)).2.2.2.2.2.1 from by first | rfl | (simp only [(show ig1 3215 = i 3215 from kg1.fi 3215 rfl), qm57, kg1.fa 51 rfl, sMn, sMx, cGive, cRest, cCoin, cT]; done) | (simp only [(show ig1 3215 = i 3215 from kg1.fi 3215 rfl), qm57, kg1.fa 51 rfl, sMn, sMx, cGive, cRest, cCoin, cT]; rfl)) (show a77 63 = (cGive x1 (cT 50 i a)).2.2.2.2.2.2.1 from by first | rfl | (simp only [fa77 63 (by decide), ea71, fa65 63 (by decide), qm57, kg1.fa 51 rfl, fa61 63 (by decide), kg1.fa 63 rfl, sMn, sMx, cGive, cRest, cCoin, cT]; done) | (simp only [fa77 63 (by decide), ea71, fa65 63 (by decide), qm57, kg1.fa 51 rfl, fa61 63 (by decide), kg1.fa 63 rfl, sMn, sMx, cGive, cRest, cCoin, cT]; rfl)) (fun u hu => match u, hu with | 0, _ => (Eq.trans (show a77 65 = cRow 50 a 0 from by rw [cRow_lt (p := 50) (a := a) (by decide : 0 < 8)]; first | rfl | (simp only [fa77 65 (by decide), fa71 65 (by decide), fa65 65 (by decide), fa61 65 (by decide), kg1.fa 65 rfl, sMn, sMx, cCoin, cT]; done) | (simp only [fa77 65 (by decide), fa71 65 (by decide), fa65 65 (by decide), fa61 65 (by decide), kg1.fa 65 rfl, sMn, sMx, cCoin, cT]; rfl)) (cG_f (c := x1) (T := (cT 50 i a)) (u := 0) (ow11 w75) (ow105 w75))) | 1, _ => (Eq.trans (show a77 66 = (cRow 50 a 1).set x1.toNatClampNeg ((cRow 50 a 1).getD x1.toNatClampNeg 0 + cCoin (cT 50 i a)) from by rw [cRow_lt (p := 50) (a := a) (by decide : 1 < 8)]; first | rfl | (simp only [ea77, fa71 66 (by decide), qm57, kg1.fa 51 rfl, fa65 66 (by decide), fa61 66 (by decide), kg1.fa 66 rfl, sMn, sMx, cCoin, cT]; done) | (simp only [ea77, fa71 66 (by decide), qm57, kg1.fa 51 rfl, fa65 66 (by decide), fa61 66 (by decide), kg1.fa 66 rfl, sMn, sMx, cCoin, cT]; rfl)) (cG_t (c := x1) (T := (cT 50 i a)) (u := 1) (ow106 w75))) | 2, _ => (Eq.trans (show a77 67 = cRow 50 a 2 from by rw [cRow_lt (p := 50) (a := a) (by decide : 2 < 8)]; first | rfl | (simp only [fa77 67 (by decide), fa71 67 (by decide), fa65 67 (by decide), fa61 67 (by decide), kg1.fa 67 rfl, sMn, sMx, cCoin, cT]; done) | (simp only [fa77 67 (by decide), fa71 67 (by decide), fa65 67 (by decide), fa61 67 (by decide), kg1.fa 67 rfl, sMn, sMx, cCoin, cT]; rfl)) (cG_f (c := x1) (T := (cT 50 i a)) (u := 2) (ow11 w75) (ow107 w75))) | 3, _ => (Eq.trans (show a77 68 = cRow 50 a 3 from by rw [cRow_lt (p := 50) (a := a) (by decide : 3 < 8)]; first | rfl | (simp only [fa77 68 (by decide), fa71 68 (by decide), fa65 68 (by decide), fa61 68 (by decide), kg1.fa 68 rfl, sMn, sMx, cCoin, cT]; done) | (simp only [fa77 68 (by decide), fa71 68 (by decide), fa65 68 (by decide), fa61 68 (by decide), kg1.fa 68 rfl, sMn, sMx, cCoin, cT]; rfl)) (cG_f (c := x1) (T := (cT 50 i a)) (u := 3) (ow11 w75) (ow108 w75))) | 4, _ => (Eq.trans (show a77 69 = cRow 50 a 4 from by rw [cRow_lt (p := 50) (a := a) (by decide : 4 < 8)]; first | rfl | (simp only [fa77 69 (by decide), fa71 69 (by decide), fa65 69 (by decide), fa61 69 (by decide), kg1.fa 69 rfl, sMn, sMx, cCoin, cT]; done) | (simp only [fa77 69 (by decide), fa71 69 (by decide), fa65 69 (by decide), fa61 69 (by decide), kg1.fa 69 rfl, sMn, sMx, cCoin, cT]; rfl)) (cG_f (c := x1) (T := (cT 50 i a)) (u := 4) (ow11 w75) (ow109 w75))) | 5, _ => (Eq.trans (show a77 70 = cRow 50 a 5 from by rw [cRow_lt (p := 50) (a := a) (by decide : 5 < 8)]; first | rfl | (simp only [fa77 70 (by decide), fa71 70 (by decide), fa65 70 (by decide), fa61 70 (by decide), kg1.fa 70 rfl, sMn, sMx, cCoin, cT]; done) | (simp only [fa77 70 (by decide), fa71 70 (by decide), fa65 70 (by decide), fa61 70 (by decide), kg1.fa 70 rfl, sMn, sMx, cCoin, cT]; rfl)) (cG_f (c := x1) (T := (cT 50 i a)) (u := 5) (ow11 w75) (ow110 w75))) | 6, _ => (Eq.trans (show a77 71 = cRow 50 a 6 from by rw [cRow_lt (p := 50) (a := a) (by decide : 6 < 8)]; first | rfl | (simp only [fa77 71 (by decide), fa71 71 (by decide), fa65 71 (by decide), fa61 71 (by decide), kg1.fa 71 rfl, sMn, sMx, cCoin, cT]; done) | (simp only [fa77 71 (by decide), fa71 71 (by decide), fa65 71 (by decide), fa61 71 (by decide), kg1.fa 71 rfl, sMn, sMx, cCoin, cT]; rfl)) (cG_f (c := x1) (T := (cT 50 i a)) (u := 6) (ow11 w75) (ow111 w75))) | 7, _ => (Eq.trans (show a77 72 = cRow 50 a 7 from by rw [cRow_lt (p := 50) (a := a) (by decide : 7 < 8)]; first | rfl | (simp only [fa77 72 (by decide), fa71 72 (by decide), fa65 72 (by decide), fa61 72 (by decide), kg1.fa 72 rfl, sMn, sMx, cCoin, cT]; done) | (simp only [fa77 72 (by decide), fa71 72 (by decide), fa65 72 (by decide), fa61 72 (by decide), kg1.fa 72 rfl, sMn, sMx, cCoin, cT]; rfl)) (cG_f (c := x1) (T := (cT 50 i a)) (u := 7) (ow11 w75) (ow112 w75))) | _ + 8, h => absurd h (by omega)) (fun u hu => (cG_f (c := x1) (T := (cT 50 i a)) (ow11 w75) (kj_big hu (ow113 w75))).symm.trans (cRow_ge hu))).trans (show cGive x1 (cT 50 i a) = cPay (i 3200) x1 (cT 50 i a) from (if_pos (ow104 c54 efig1_3200 w75 z56.2)).symm))⟩)
        by_cases w78 : ((a 57).getD (0 : Int32).toNatClampNeg 0).toInt = 2
        ·
          refine ft_alx mi_k30 (pc := 128) (v := 2) (p := 64) (z := 67) (kj_eq w78 (by decide) : ((a 57).getD (0 : Int32).toNatClampNeg 0) = 2) (by decide +kernel) (by decide +kernel) ?_
          refine fo_goS mi_k30 fz30_129_2_131 [.int x1, .ref 67, .int x1, .ref 67] rfl ?_
          refine ko_iald3 mi_k30.1 (n := 8) (c := 8) (ax := (0, 0, 0, 0, 0)) (mi_k30.2 _ _ (by rfl)) (by rfl) (ksG67 _ _ _ _) (hJ71.I.2.1 67) rfl (ow4 hp0.1) (ow7 hp0.2) ?_
          have b79 : ((-2147483648 : Int) ≤ ((a71 67).getD x1.toNatClampNeg 0).toInt) ∧ (((a71 67).getD x1.toNatClampNeg 0).toInt ≤ 2147483647) := kd_bd ((a71 67).getD x1.toNatClampNeg 0)
          refine fo_goS mi_k30 fz30_132_2_135 [.int (((a71 67).getD x1.toNatClampNeg 0) + m57), .int x1, .ref 67] rfl ?_
          refine ko_iast3 mi_k30.1 (n := 8) (c := 8) (ax := (0, 0, 0, 0, 0)) (mi_k30.2 _ _ (by rfl)) (by rfl) (ksG67 _ _ _ _) (ksA67 _ _ _ _) (hJ71.I.2.1 67) rfl (ow4 hp0.1) (ow7 hp0.2) ?_
          intro a80 ea80 fa80
          have hJ80 := kG_a3 hJ71 67 rfl ea80 fa80 (kd_bd _)
          exact ft_ret mi_k30 (by rfl) (hP  _ _ _ _ hJ80 ⟨(ow89 z2), ((cT_eq (p := 50) (i := ku (ku ig1 3214 ((a 57).getD (0 : Int32).toNatClampNeg 0)) 3215 ((ig1 3215) + m57)) (a := a80) (T := cGive x1 (cT 50 i a)) (show ig1 3586 = (cGive x1 (cT 50 i a)).1 from by first | rfl | (simp only [q3, sMn, sMx, cGive, cRest, cCoin, cT]; done) | (simp only [q3, sMn, sMx, cGive, cRest, cCoin, cT]; rfl)) (show a80 57 = (cGive x1 (cT 50 i a)).2.1 from by first | rfl | (simp only [fa80 57 (by decide), fa71 57 (by decide), fa65 57 (by decide), fa61 57 (by decide), q4, sMn, sMx, cGive, cRest, cCoin, cT]; done) | (simp only [fa80 57 (by decide), fa71 57 (by decide), fa65 57 (by decide), fa61 57 (by decide), q4, sMn, sMx, cGive, cRest, cCoin, cT]; rfl)) (show a80 58 = (cGive x1 (cT 50 i a)).2.2.1 from by first | rfl | (simp only [fa80 58 (by decide), fa71 58 (by decide), fa65 58 (by decide), fa61 58 (by decide), q5, sMn, sMx, cGive, cRest, cCoin, cT]; done) | (simp only [fa80 58 (by decide), fa71 58 (by decide), fa65 58 (by decide), fa61 58 (by decide), q5, sMn, sMx, cGive, cRest, cCoin, cT]; rfl)) (show a80 51 = (cGive x1 (cT 50 i a)).2.2.2.1 from by first | rfl | (simp only [fa80 51 (by decide), fa71 51 (by decide), ea65, ea61, qm63, qm57, kg1.fa 51 rfl, sMn, sMx, cGive, cRest, cCoin, cT]; done) | (simp only [fa80 51 (by decide), fa71 51 (by decide), ea65, ea61, qm63, qm57, kg1.fa 51 rfl, sMn, sMx, cGive, cRest, cCoin, cT]; rfl)) (cY_pos (y := i 3214) (d := (a 57).getD 0 0) (ow178 c51 efig1_3214 kow8)) (show ((ig1 3215) + m57) = (cGive x1 (cT 50 i a)).2.2.2.2.2.1 from by first | rfl | (simp only [(show ig1 3215 = i 3215 from kg1.fi 3215 rfl), qm57, kg1.fa 51 rfl, sMn, sMx, cGive, cRest, cCoin, cT]; done) | (simp only [(show ig1 3215 = i 3215 from kg1.fi 3215 rfl), qm57, kg1.fa 51 rfl, sMn, sMx, cGive, cRest, cCoin, cT]; rfl)) (show a80 63 = (cGive x1 (cT 50 i a)).2.2.2.2.2.2.1 from by first | rfl | (simp only [fa80 63 (by decide), ea71, fa65 63 (by decide), qm57, kg1.fa 51 rfl, fa61 63 (by decide), kg1.fa 63 rfl, sMn, sMx, cGive, cRest, cCoin, cT]; done) | (simp only [fa80 63 (by decide), ea71, fa65 63 (by decide), qm57, kg1.fa 51 rfl, fa61 63 (by decide), kg1.fa 63 rfl, sMn, sMx, cGive, cRest, cCoin, cT]; rfl)) (fun u hu => match u, hu with | 0, _ => (Eq.trans (show a80 65 = cRow 50 a 0 from by rw [cRow_lt (p := 50) (a := a) (by decide : 0 < 8)]; first | rfl | (simp only [fa80 65 (by decide), fa71 65 (by decide), fa65 65 (by decide), fa61 65 (by decide), kg1.fa 65 rfl, sMn, sMx, cCoin, cT]; done) | (simp only [fa80 65 (by decide), fa71 65 (by decide), fa65 65 (by decide), fa61 65 (by decide), kg1.fa 65 rfl, sMn, sMx, cCoin, cT]; rfl)) (cG_f (c := x1) (T := (cT 50 i a)) (u := 0) (ow13 w78) (ow115 w78))) | 1, _ => (Eq.trans (show a80 66 = cRow 50 a 1 from by rw [cRow_lt (p := 50) (a := a) (by decide : 1 < 8)]; first | rfl | (simp only [fa80 66 (by decide), fa71 66 (by decide), fa65 66 (by decide), fa61 66 (by decide), kg1.fa 66 rfl, sMn, sMx, cCoin, cT]; done) | (simp only [fa80 66 (by decide), fa71 66 (by decide), fa65 66 (by decide), fa61 66 (by decide), kg1.fa 66 rfl, sMn, sMx, cCoin, cT]; rfl)) (cG_f (c := x1) (T := (cT 50 i a)) (u := 1) (ow13 w78) (ow116 w78))) | 2, _ => (Eq.trans (show a80 67 = (cRow 50 a 2).set x1.toNatClampNeg ((cRow 50 a 2).getD x1.toNatClampNeg 0 + cCoin (cT 50 i a)) from by rw [cRow_lt (p := 50) (a := a) (by decide : 2 < 8)]; first | rfl | (simp only [ea80, fa71 67 (by decide), qm57, kg1.fa 51 rfl, fa65 67 (by decide), fa61 67 (by decide), kg1.fa 67 rfl, sMn, sMx, cCoin, cT]; done) | (simp only [ea80, fa71 67 (by decide), qm57, kg1.fa 51 rfl, fa65 67 (by decide), fa61 67 (by decide), kg1.fa 67 rfl, sMn, sMx, cCoin, cT]; rfl)) (cG_t (c := x1) (T := (cT 50 i a)) (u := 2) (ow117 w78))) | 3, _ => (Eq.trans (show a80 68 = cRow 50 a 3 from by rw [cRow_lt (p := 50) (a := a) (by decide : 3 < 8)]; first | rfl | (simp only [fa80 68 (by decide), fa71 68 (by decide), fa65 68 (by decide), fa61 68 (by decide), kg1.fa 68 rfl, sMn, sMx, cCoin, cT]; done) | (simp only [fa80 68 (by decide), fa71 68 (by decide), fa65 68 (by decide), fa61 68 (by decide), kg1.fa 68 rfl, sMn, sMx, cCoin, cT]; rfl)) (cG_f (c := x1) (T := (cT 50 i a)) (u := 3) (ow13 w78) (ow118 w78))) | 4, _ => (Eq.trans (show a80 69 = cRow 50 a 4 from by rw [cRow_lt (p := 50) (a := a) (by decide : 4 < 8)]; first | rfl | (simp only [fa80 69 (by decide), fa71 69 (by decide), fa65 69 (by decide), fa61 69 (by decide), kg1.fa 69 rfl, sMn, sMx, cCoin, cT]; done) | (simp only [fa80 69 (by decide), fa71 69 (by decide), fa65 69 (by decide), fa61 69 (by decide), kg1.fa 69 rfl, sMn, sMx, cCoin, cT]; rfl)) (cG_f (c := x1) (T := (cT 50 i a)) (u := 4) (ow13 w78) (ow119 w78))) | 5, _ => (Eq.trans (show a80 70 = cRow 50 a 5 from by rw [cRow_lt (p := 50) (a := a) (by decide : 5 < 8)]; first | rfl | (simp only [fa80 70 (by decide), fa71 70 (by decide), fa65 70 (by decide), fa61 70 (by decide), kg1.fa 70 rfl, sMn, sMx, cCoin, cT]; done) | (simp only [fa80 70 (by decide), fa71 70 (by decide), fa65 70 (by decide), fa61 70 (by decide), kg1.fa 70 rfl, sMn, sMx, cCoin, cT]; rfl)) (cG_f (c := x1) (T := (cT 50 i a)) (u := 5) (ow13 w78) (ow120 w78))) | 6, _ => (Eq.trans (show a80 71 = cRow 50 a 6 from by rw [cRow_lt (p := 50) (a := a) (by decide : 6 < 8)]; first | rfl | (simp only [fa80 71 (by decide), fa71 71 (by decide), fa65 71 (by decide), fa61 71 (by decide), kg1.fa 71 rfl, sMn, sMx, cCoin, cT]; done) | (simp only [fa80 71 (by decide), fa71 71 (by decide), fa65 71 (by decide), fa61 71 (by decide), kg1.fa 71 rfl, sMn, sMx, cCoin, cT]; rfl)) (cG_f (c := x1) (T := (cT 50 i a)) (u := 6) (ow13 w78) (ow121 w78))) | 7, _ => (Eq.trans (show a80 72 = cRow 50 a 7 from by rw [cRow_lt (p := 50) (a := a) (by decide : 7 < 8)]; first | rfl | (simp only [fa80 72 (by decide), fa71 72 (by decide), fa65 72 (by decide), fa61 72 (by decide), kg1.fa 72 rfl, sMn, sMx, cCoin, cT]; done) | (simp only [fa80 72 (by decide), fa71 72 (by decide), fa65 72 (by decide), fa61 72 (by decide), kg1.fa 72 rfl, sMn, sMx, cCoin, cT]; rfl)) (cG_f (c := x1) (T := (cT 50 i a)) (u := 7) (ow13 w78) (ow122 w78))) | _ + 8, h => absurd h (by omega)) (fun u hu => (cG_f (c := x1) (T := (cT 50 i a)) (ow13 w78) (kj_big hu (ow123 w78))).symm.trans (cRow_ge hu))).trans (show cGive x1 (cT 50 i a) = cPay (i 3200) x1 (cT 50 i a) from (if_pos (ow114 c54 efig1_3200 w78 z56.2)).symm))⟩)
        by_cases w81 : ((a 57).getD (0 : Int32).toNatClampNeg 0).toInt = 3
        ·
          refine ft_alx mi_k30 (pc := 128) (v := 3) (p := 64) (z := 68) (kj_eq w81 (by decide) : ((a 57).getD (0 : Int32).toNatClampNeg 0) = 3) (by decide +kernel) (by decide +kernel) ?_
          refine fo_goS mi_k30 fz30_129_2_131 [.int x1, .ref 68, .int x1, .ref 68] rfl ?_
          refine ko_iald3 mi_k30.1 (n := 8) (c := 8) (ax := (0, 0, 0, 0, 0)) (mi_k30.2 _ _ (by rfl)) (by rfl) (ksG68 _ _ _ _) (hJ71.I.2.1 68) rfl (ow4 hp0.1) (ow7 hp0.2) ?_
          have b82 : ((-2147483648 : Int) ≤ ((a71 68).getD x1.toNatClampNeg 0).toInt) ∧ (((a71 68).getD x1.toNatClampNeg 0).toInt ≤ 2147483647) := kd_bd ((a71 68).getD x1.toNatClampNeg 0)
          refine fo_goS mi_k30 fz30_132_2_135 [.int (((a71 68).getD x1.toNatClampNeg 0) + m57), .int x1, .ref 68] rfl ?_
          refine ko_iast3 mi_k30.1 (n := 8) (c := 8) (ax := (0, 0, 0, 0, 0)) (mi_k30.2 _ _ (by rfl)) (by rfl) (ksG68 _ _ _ _) (ksA68 _ _ _ _) (hJ71.I.2.1 68) rfl (ow4 hp0.1) (ow7 hp0.2) ?_
          intro a83 ea83 fa83
          have hJ83 := kG_a3 hJ71 68 rfl ea83 fa83 (kd_bd _)
          exact ft_ret mi_k30 (by rfl) (hP  _ _ _ _ hJ83 ⟨(ow89 z2), ((cT_eq (p := 50) (i := ku (ku ig1 3214 ((a 57).getD (0 : Int32).toNatClampNeg 0)) 3215 ((ig1 3215) + m57)) (a := a83) (T := cGive x1 (cT 50 i a)) (show ig1 3586 = (cGive x1 (cT 50 i a)).1 from by first | rfl | (simp only [q3, sMn, sMx, cGive, cRest, cCoin, cT]; done) | (simp only [q3, sMn, sMx, cGive, cRest, cCoin, cT]; rfl)) (show a83 57 = (cGive x1 (cT 50 i a)).2.1 from by first | rfl | (simp only [fa83 57 (by decide), fa71 57 (by decide), fa65 57 (by decide), fa61 57 (by decide), q4, sMn, sMx, cGive, cRest, cCoin, cT]; done) | (simp only [fa83 57 (by decide), fa71 57 (by decide), fa65 57 (by decide), fa61 57 (by decide), q4, sMn, sMx, cGive, cRest, cCoin, cT]; rfl)) (show a83 58 = (cGive x1 (cT 50 i a)).2.2.1 from by first | rfl | (simp only [fa83 58 (by decide), fa71 58 (by decide), fa65 58 (by decide), fa61 58 (by decide), q5, sMn, sMx, cGive, cRest, cCoin, cT]; done) | (simp only [fa83 58 (by decide), fa71 58 (by decide), fa65 58 (by decide), fa61 58 (by decide), q5, sMn, sMx, cGive, cRest, cCoin, cT]; rfl)) (show a83 51 = (cGive x1 (cT 50 i a)).2.2.2.1 from by first | rfl | (simp only [fa83 51 (by decide), fa71 51 (by decide), ea65, ea61, qm63, qm57, kg1.fa 51 rfl, sMn, sMx, cGive, cRest, cCoin, cT]; done) | (simp only [fa83 51 (by decide), fa71 51 (by decide), ea65, ea61, qm63, qm57, kg1.fa 51 rfl, sMn, sMx, cGive, cRest, cCoin, cT]; rfl)) (cY_pos (y := i 3214) (d := (a 57).getD 0 0) (ow178 c51 efig1_3214 kow8)) (show ((ig1 3215) + m57) = (cGive x1 (cT 50 i a)).2.2.2.2.2.1 from by first | rfl | (simp only [(show ig1 3215 = i 3215 from kg1.fi 3215 rfl), qm57, kg1.fa 51 rfl, sMn, sMx, cGive, cRest, cCoin, cT]; done) | (simp only [(show ig1 3215 = i 3215 from kg1.fi 3215 rfl), qm57, kg1.fa 51 rfl, sMn, sMx, cGive, cRest, cCoin, cT]; rfl)) (show a83 63 = (cGive x1 (cT 50 i a)).2.2.2.2.2.2.1 from by first | rfl | (simp only [fa83 63 (by decide), ea71, fa65 63 (by decide), qm57, kg1.fa 51 rfl, fa61 63 (by decide), kg1.fa 63 rfl, sMn, sMx, cGive, cRest, cCoin, cT]; done) | (simp only [fa83 63 (by decide), ea71, fa65 63 (by decide), qm57, kg1.fa 51 rfl, fa61 63 (by decide), kg1.fa 63 rfl, sMn, sMx, cGive, cRest, cCoin, cT]; rfl)) (fun u hu => match u, hu with | 0, _ => (Eq.trans (show a83 65 = cRow 50 a 0 from by rw [cRow_lt (p := 50) (a := a) (by decide : 0 < 8)]; first | rfl | (simp only [fa83 65 (by decide), fa71 65 (by decide), fa65 65 (by decide), fa61 65 (by decide), kg1.fa 65 rfl, sMn, sMx, cCoin, cT]; done) | (simp only [fa83 65 (by decide), fa71 65 (by decide), fa65 65 (by decide), fa61 65 (by decide), kg1.fa 65 rfl, sMn, sMx, cCoin, cT]; rfl)) (cG_f (c := x1) (T := (cT 50 i a)) (u := 0) (ow15 w81) (ow125 w81))) | 1, _ => (Eq.trans (show a83 66 = cRow 50 a 1 from by rw [cRow_lt (p := 50) (a := a) (by decide : 1 < 8)]; first | rfl | (simp only [fa83 66 (by decide), fa71 66 (by decide), fa65 66 (by decide), fa61 66 (by decide), kg1.fa 66 rfl, sMn, sMx, cCoin, cT]; done) | (simp only [fa83 66 (by decide), fa71 66 (by decide), fa65 66 (by decide), fa61 66 (by decide), kg1.fa 66 rfl, sMn, sMx, cCoin, cT]; rfl)) (cG_f (c := x1) (T := (cT 50 i a)) (u := 1) (ow15 w81) (ow126 w81))) | 2, _ => (Eq.trans (show a83 67 = cRow 50 a 2 from by rw [cRow_lt (p := 50) (a := a) (by decide : 2 < 8)]; first | rfl | (simp only [fa83 67 (by decide), fa71 67 (by decide), fa65 67 (by decide), fa61 67 (by decide), kg1.fa 67 rfl, sMn, sMx, cCoin, cT]; done) | (simp only [fa83 67 (by decide), fa71 67 (by decide), fa65 67 (by decide), fa61 67 (by decide), kg1.fa 67 rfl, sMn, sMx, cCoin, cT]; rfl)) (cG_f (c := x1) (T := (cT 50 i a)) (u := 2) (ow15 w81) (ow127 w81))) | 3, _ => (Eq.trans (show a83 68 = (cRow 50 a 3).set x1.toNatClampNeg ((cRow 50 a 3).getD x1.toNatClampNeg 0 + cCoin (cT 50 i a)) from by rw [cRow_lt (p := 50) (a := a) (by decide : 3 < 8)]; first | rfl | (simp only [ea83, fa71 68 (by decide), qm57, kg1.fa 51 rfl, fa65 68 (by decide), fa61 68 (by decide), kg1.fa 68 rfl, sMn, sMx, cCoin, cT]; done) | (simp only [ea83, fa71 68 (by decide), qm57, kg1.fa 51 rfl, fa65 68 (by decide), fa61 68 (by decide), kg1.fa 68 rfl, sMn, sMx, cCoin, cT]; rfl)) (cG_t (c := x1) (T := (cT 50 i a)) (u := 3) (ow128 w81))) | 4, _ => (Eq.trans (show a83 69 = cRow 50 a 4 from by rw [cRow_lt (p := 50) (a := a) (by decide : 4 < 8)]; first | rfl | (simp only [fa83 69 (by decide), fa71 69 (by decide), fa65 69 (by decide), fa61 69 (by decide), kg1.fa 69 rfl, sMn, sMx, cCoin, cT]; done) | (simp only [fa83 69 (by decide), fa71 69 (by decide), fa65 69 (by decide), fa61 69 (by decide), kg1.fa 69 rfl, sMn, sMx, cCoin, cT]; rfl)) (cG_f (c := x1) (T := (cT 50 i a)) (u := 4) (ow15 w81) (ow129 w81))) | 5, _ => (Eq.trans (show a83 70 = cRow 50 a 5 from by rw [cRow_lt (p := 50) (a := a) (by decide : 5 < 8)]; first | rfl | (simp only [fa83 70 (by decide), fa71 70 (by decide), fa65 70 (by decide), fa61 70 (by decide), kg1.fa 70 rfl, sMn, sMx, cCoin, cT]; done) | (simp only [fa83 70 (by decide), fa71 70 (by decide), fa65 70 (by decide), fa61 70 (by decide), kg1.fa 70 rfl, sMn, sMx, cCoin, cT]; rfl)) (cG_f (c := x1) (T := (cT 50 i a)) (u := 5) (ow15 w81) (ow130 w81))) | 6, _ => (Eq.trans (show a83 71 = cRow 50 a 6 from by rw [cRow_lt (p := 50) (a := a) (by decide : 6 < 8)]; first | rfl | (simp only [fa83 71 (by decide), fa71 71 (by decide), fa65 71 (by decide), fa61 71 (by decide), kg1.fa 71 rfl, sMn, sMx, cCoin, cT]; done) | (simp only [fa83 71 (by decide), fa71 71 (by decide), fa65 71 (by decide), fa61 71 (by decide), kg1.fa 71 rfl, sMn, sMx, cCoin, cT]; rfl)) (cG_f (c := x1) (T := (cT 50 i a)) (u := 6) (ow15 w81) (ow131 w81))) | 7, _ => (Eq.trans (show a83 72 = cRow 50 a 7 from by rw [cRow_lt (p := 50) (a := a) (by decide : 7 < 8)]; first | rfl | (simp only [fa83 72 (by decide), fa71 72 (by decide), fa65 72 (by decide), fa61 72 (by decide), kg1.fa 72 rfl, sMn, sMx, cCoin, cT]; done) | (simp only [fa83 72 (by decide), fa71 72 (by decide), fa65 72 (by decide), fa61 72 (by decide), kg1.fa 72 rfl, sMn, sMx, cCoin, cT]; rfl)) (cG_f (c := x1) (T := (cT 50 i a)) (u := 7) (ow15 w81) (ow132 w81))) | _ + 8, h => absurd h (by omega)) (fun u hu => (cG_f (c := x1) (T := (cT 50 i a)) (ow15 w81) (kj_big hu (ow133 w81))).symm.trans (cRow_ge hu))).trans (show cGive x1 (cT 50 i a) = cPay (i 3200) x1 (cT 50 i a) from (if_pos (ow124 c54 efig1_3200 w81 z56.2)).symm))⟩)
        by_cases w84 : ((a 57).getD (0 : Int32).toNatClampNeg 0).toInt = 4
        ·
          refine ft_alx mi_k30 (pc := 128) (v := 4) (p := 64) (z := 69) (kj_eq w84 (by decide) : ((a 57).getD (0 : Int32).toNatClampNeg 0) = 4) (by decide +kernel) (by decide +kernel) ?_
          refine fo_goS mi_k30 fz30_129_2_131 [.int x1, .ref 69, .int x1, .ref 69] rfl ?_
          refine ko_iald3 mi_k30.1 (n := 8) (c := 8) (ax := (0, 0, 0, 0, 0)) (mi_k30.2 _ _ (by rfl)) (by rfl) (ksG69 _ _ _ _) (hJ71.I.2.1 69) rfl (ow4 hp0.1) (ow7 hp0.2) ?_
          have b85 : ((-2147483648 : Int) ≤ ((a71 69).getD x1.toNatClampNeg 0).toInt) ∧ (((a71 69).getD x1.toNatClampNeg 0).toInt ≤ 2147483647) := kd_bd ((a71 69).getD x1.toNatClampNeg 0)
          refine fo_goS mi_k30 fz30_132_2_135 [.int (((a71 69).getD x1.toNatClampNeg 0) + m57), .int x1, .ref 69] rfl ?_
          refine ko_iast3 mi_k30.1 (n := 8) (c := 8) (ax := (0, 0, 0, 0, 0)) (mi_k30.2 _ _ (by rfl)) (by rfl) (ksG69 _ _ _ _) (ksA69 _ _ _ _) (hJ71.I.2.1 69) rfl (ow4 hp0.1) (ow7 hp0.2) ?_
          intro a86 ea86 fa86
          have hJ86 := kG_a3 hJ71 69 rfl ea86 fa86 (kd_bd _)
          exact ft_ret mi_k30 (by rfl) (hP  _ _ _ _ hJ86 ⟨(ow89 z2), ((cT_eq (p := 50) (i := ku (ku ig1 3214 ((a 57).getD (0 : Int32).toNatClampNeg 0)) 3215 ((ig1 3215) + m57)) (a := a86) (T := cGive x1 (cT 50 i a)) (show ig1 3586 = (cGive x1 (cT 50 i a)).1 from by first | rfl | (simp only [q3, sMn, sMx, cGive, cRest, cCoin, cT]; done) | (simp only [q3, sMn, sMx, cGive, cRest, cCoin, cT]; rfl)) (show a86 57 = (cGive x1 (cT 50 i a)).2.1 from by first | rfl | (simp only [fa86 57 (by decide), fa71 57 (by decide), fa65 57 (by decide), fa61 57 (by decide), q4, sMn, sMx, cGive, cRest, cCoin, cT]; done) | (simp only [fa86 57 (by decide), fa71 57 (by decide), fa65 57 (by decide), fa61 57 (by decide), q4, sMn, sMx, cGive, cRest, cCoin, cT]; rfl)) (show a86 58 = (cGive x1 (cT 50 i a)).2.2.1 from by first | rfl | (simp only [fa86 58 (by decide), fa71 58 (by decide), fa65 58 (by decide), fa61 58 (by decide), q5, sMn, sMx, cGive, cRest, cCoin, cT]; done) | (simp only [fa86 58 (by decide), fa71 58 (by decide), fa65 58 (by decide), fa61 58 (by decide), q5, sMn, sMx, cGive, cRest, cCoin, cT]; rfl)) (show a86 51 = (cGive x1 (cT 50 i a)).2.2.2.1 from by first | rfl | (simp only [fa86 51 (by decide), fa71 51 (by decide), ea65, ea61, qm63, qm57, kg1.fa 51 rfl, sMn, sMx, cGive, cRest, cCoin, cT]; done) | (simp only [fa86 51 (by decide), fa71 51 (by decide), ea65, ea61, qm63, qm57, kg1.fa 51 rfl, sMn, sMx, cGive, cRest, cCoin, cT]; rfl)) (cY_pos (y := i 3214) (d := (a 57).getD 0 0) (ow178 c51 efig1_3214 kow8)) (show ((ig1 3215) + m57) = (cGive x1 (cT 50 i a)).2.2.2.2.2.1 from by first | rfl | (simp only [(show ig1 3215 = i 3215 from kg1.fi 3215 rfl), qm57, kg1.fa 51 rfl, sMn, sMx, cGive, cRest, cCoin, cT]; done) | (simp only [(show ig1 3215 = i 3215 from kg1.fi 3215 rfl), qm57, kg1.fa 51 rfl, sMn, sMx, cGive, cRest, cCoin, cT]; rfl)) (show a86 63 = (cGive x1 (cT 50 i a)).2.2.2.2.2.2.1 from by first | rfl | (simp only [fa86 63 (by decide), ea71, fa65 63 (by decide), qm57, kg1.fa 51 rfl, fa61 63 (by decide), kg1.fa 63 rfl, sMn, sMx, cGive, cRest, cCoin, cT]; done) | (simp only [fa86 63 (by decide), ea71, fa65 63 (by decide), qm57, kg1.fa 51 rfl, fa61 63 (by decide), kg1.fa 63 rfl, sMn, sMx, cGive, cRest, cCoin, cT]; rfl)) (fun u hu => match u, hu with | 0, _ => (Eq.trans (show a86 65 = cRow 50 a 0 from by rw [cRow_lt (p := 50) (a := a) (by decide : 0 < 8)]; first | rfl | (simp only [fa86 65 (by decide), fa71 65 (by decide), fa65 65 (by decide), fa61 65 (by decide), kg1.fa 65 rfl, sMn, sMx, cCoin, cT]; done) | (simp only [fa86 65 (by decide), fa71 65 (by decide), fa65 65 (by decide), fa61 65 (by decide), kg1.fa 65 rfl, sMn, sMx, cCoin, cT]; rfl)) (cG_f (c := x1) (T := (cT 50 i a)) (u := 0) (ow17 w84) (ow135 w84))) | 1, _ => (Eq.trans (show a86 66 = cRow 50 a 1 from by rw [cRow_lt (p := 50) (a := a) (by decide : 1 < 8)]; first | rfl | (simp only [fa86 66 (by decide), fa71 66 (by decide), fa65 66 (by decide), fa61 66 (by decide), kg1.fa 66 rfl, sMn, sMx, cCoin, cT]; done) | (simp only [fa86 66 (by decide), fa71 66 (by decide), fa65 66 (by decide), fa61 66 (by decide), kg1.fa 66 rfl, sMn, sMx, cCoin, cT]; rfl)) (cG_f (c := x1) (T := (cT 50 i a)) (u := 1) (ow17 w84) (ow136 w84))) | 2, _ => (Eq.trans (show a86 67 = cRow 50 a 2 from by rw [cRow_lt (p := 50) (a := a) (by decide : 2 < 8)]; first | rfl | (simp only [fa86 67 (by decide), fa71 67 (by decide), fa65 67 (by decide), fa61 67 (by decide), kg1.fa 67 rfl, sMn, sMx, cCoin, cT]; done) | (simp only [fa86 67 (by decide), fa71 67 (by decide), fa65 67 (by decide), fa61 67 (by decide), kg1.fa 67 rfl, sMn, sMx, cCoin, cT]; rfl)) (cG_f (c := x1) (T := (cT 50 i a)) (u := 2) (ow17 w84) (ow137 w84))) | 3, _ => (Eq.trans (show a86 68 = cRow 50 a 3 from by rw [cRow_lt (p := 50) (a := a) (by decide : 3 < 8)]; first | rfl | (simp only [fa86 68 (by decide), fa71 68 (by decide), fa65 68 (by decide), fa61 68 (by decide), kg1.fa 68 rfl, sMn, sMx, cCoin, cT]; done) | (simp only [fa86 68 (by decide), fa71 68 (by decide), fa65 68 (by decide), fa61 68 (by decide), kg1.fa 68 rfl, sMn, sMx, cCoin, cT]; rfl)) (cG_f (c := x1) (T := (cT 50 i a)) (u := 3) (ow17 w84) (ow138 w84))) | 4, _ => (Eq.trans (show a86 69 = (cRow 50 a 4).set x1.toNatClampNeg ((cRow 50 a 4).getD x1.toNatClampNeg 0 + cCoin (cT 50 i a)) from by rw [cRow_lt (p := 50) (a := a) (by decide : 4 < 8)]; first | rfl | (simp only [ea86, fa71 69 (by decide), qm57, kg1.fa 51 rfl, fa65 69 (by decide), fa61 69 (by decide), kg1.fa 69 rfl, sMn, sMx, cCoin, cT]; done) | (simp only [ea86, fa71 69 (by decide), qm57, kg1.fa 51 rfl, fa65 69 (by decide), fa61 69 (by decide), kg1.fa 69 rfl, sMn, sMx, cCoin, cT]; rfl)) (cG_t (c := x1) (T := (cT 50 i a)) (u := 4) (ow139 w84))) | 5, _ => (Eq.trans (show a86 70 = cRow 50 a 5 from by rw [cRow_lt (p := 50) (a := a) (by decide : 5 < 8)]; first | rfl | (simp only [fa86 70 (by decide), fa71 70 (by decide), fa65 70 (by decide), fa61 70 (by decide), kg1.fa 70 rfl, sMn, sMx, cCoin, cT]; done) | (simp only [fa86 70 (by decide), fa71 70 (by decide), fa65 70 (by decide), fa61 70 (by decide), kg1.fa 70 rfl, sMn, sMx, cCoin, cT]; rfl)) (cG_f (c := x1) (T := (cT 50 i a)) (u := 5) (ow17 w84) (ow140 w84))) | 6, _ => (Eq.trans (show a86 71 = cRow 50 a 6 from by rw [cRow_lt (p := 50) (a := a) (by decide : 6 < 8)]; first | rfl | (simp only [fa86 71 (by decide), fa71 71 (by decide), fa65 71 (by decide), fa61 71 (by decide), kg1.fa 71 rfl, sMn, sMx, cCoin, cT]; done) | (simp only [fa86 71 (by decide), fa71 71 (by decide), fa65 71 (by decide), fa61 71 (by decide), kg1.fa 71 rfl, sMn, sMx, cCoin, cT]; rfl)) (cG_f (c := x1) (T := (cT 50 i a)) (u := 6) (ow17 w84) (ow141 w84))) | 7, _ => (Eq.trans (show a86 72 = cRow 50 a 7 from by rw [cRow_lt (p := 50) (a := a) (by decide : 7 < 8)]; first | rfl | (simp only [fa86 72 (by decide), fa71 72 (by decide), fa65 72 (by decide), fa61 72 (by decide), kg1.fa 72 rfl, sMn, sMx, cCoin, cT]; done) | (simp only [fa86 72 (by decide), fa71 72 (by decide), fa65 72 (by decide), fa61 72 (by decide), kg1.fa 72 rfl, sMn, sMx, cCoin, cT]; rfl)) (cG_f (c := x1) (T := (cT 50 i a)) (u := 7) (ow17 w84) (ow142 w84))) | _ + 8, h => absurd h (by omega)) (fun u hu => (cG_f (c := x1) (T := (cT 50 i a)) (ow17 w84) (kj_big hu (ow143 w84))).symm.trans (cRow_ge hu))).trans (show cGive x1 (cT 50 i a) = cPay (i 3200) x1 (cT 50 i a) from (if_pos (ow134 c54 efig1_3200 w84 z56.2)).symm))⟩)
        by_cases w87 : ((a 57).getD (0 : Int32).toNatClampNeg 0).toInt = 5
        ·
          refine ft_alx mi_k30 (pc := 128) (v := 5) (p := 64) (z := 70) (kj_eq w87 (by decide) : ((a 57).getD (0 : Int32).toNatClampNeg 0) = 5) (by decide +kernel) (by decide +kernel) ?_
          refine fo_goS mi_k30 fz30_129_2_131 [.int x1, .ref 70, .int x1, .ref 70] rfl ?_
          refine ko_iald3 mi_k30.1 (n := 8) (c := 8) (ax := (0, 0, 0, 0, 0)) (mi_k30.2 _ _ (by rfl)) (by rfl) (ksG70 _ _ _ _) (hJ71.I.2.1 70) rfl (ow4 hp0.1) (ow7 hp0.2) ?_
          have b88 : ((-2147483648 : Int) ≤ ((a71 70).getD x1.toNatClampNeg 0).toInt) ∧ (((a71 70).getD x1.toNatClampNeg 0).toInt ≤ 2147483647) := kd_bd ((a71 70).getD x1.toNatClampNeg 0)
          refine fo_goS mi_k30 fz30_132_2_135 [.int (((a71 70).getD x1.toNatClampNeg 0) + m57), .int x1, .ref 70] rfl ?_
          refine ko_iast3 mi_k30.1 (n := 8) (c := 8) (ax := (0, 0, 0, 0, 0)) (mi_k30.2 _ _ (by rfl)) (by rfl) (ksG70 _ _ _ _) (ksA70 _ _ _ _) (hJ71.I.2.1 70) rfl (ow4 hp0.1) (ow7 hp0.2) ?_
          intro a89 ea89 fa89
          have hJ89 := kG_a3 hJ71 70 rfl ea89 fa89 (kd_bd _)
          exact ft_ret mi_k30 (by rfl) (hP  _ _ _ _ hJ89 ⟨(ow89 z2), ((cT_eq (p := 50) (i := ku (ku ig1 3214 ((a 57).getD (0 : Int32).toNatClampNeg 0)) 3215 ((ig1 3215) + m57)) (a := a89) (T := cGive x1 (cT 50 i a)) (show ig1 3586 = (cGive x1 (cT 50 i a)).1 from by first | rfl | (simp only [q3, sMn, sMx, cGive, cRest, cCoin, cT]; done) | (simp only [q3, sMn, sMx, cGive, cRest, cCoin, cT]; rfl)) (show a89 57 = (cGive x1 (cT 50 i a)).2.1 from by first | rfl | (simp only [fa89 57 (by decide), fa71 57 (by decide), fa65 57 (by decide), fa61 57 (by decide), q4, sMn, sMx, cGive, cRest, cCoin, cT]; done) | (simp only [fa89 57 (by decide), fa71 57 (by decide), fa65 57 (by decide), fa61 57 (by decide), q4, sMn, sMx, cGive, cRest, cCoin, cT]; rfl)) (show a89 58 = (cGive x1 (cT 50 i a)).2.2.1 from by first | rfl | (simp only [fa89 58 (by decide), fa71 58 (by decide), fa65 58 (by decide), fa61 58 (by decide), q5, sMn, sMx, cGive, cRest, cCoin, cT]; done) | (simp only [fa89 58 (by decide), fa71 58 (by decide), fa65 58 (by decide), fa61 58 (by decide), q5, sMn, sMx, cGive, cRest, cCoin, cT]; rfl)) (show a89 51 = (cGive x1 (cT 50 i a)).2.2.2.1 from by first | rfl | (simp only [fa89 51 (by decide), fa71 51 (by decide), ea65, ea61, qm63, qm57, kg1.fa 51 rfl, sMn, sMx, cGive, cRest, cCoin, cT]; done) | (simp only [fa89 51 (by decide), fa71 51 (by decide), ea65, ea61, qm63, qm57, kg1.fa 51 rfl, sMn, sMx, cGive, cRest, cCoin, cT]; rfl)) (cY_pos (y := i 3214) (d := (a 57).getD 0 0) (ow178 c51 efig1_3214 kow8)) (show ((ig1 3215) + m57) = (cGive x1 (cT 50 i a)).2.2.2.2.2.1 from by first | rfl | (simp only [(show ig1 3215 = i 3215 from kg1.fi 3215 rfl), qm57, kg1.fa 51 rfl, sMn, sMx, cGive, cRest, cCoin, cT]; done) | (simp only [(show ig1 3215 = i 3215 from kg1.fi 3215 rfl), qm57, kg1.fa 51 rfl, sMn, sMx, cGive, cRest, cCoin, cT]; rfl)) (show a89 63 = (cGive x1 (cT 50 i a)).2.2.2.2.2.2.1 from by first | rfl | (simp only [fa89 63 (by decide), ea71, fa65 63 (by decide), qm57, kg1.fa 51 rfl, fa61 63 (by decide), kg1.fa 63 rfl, sMn, sMx, cGive, cRest, cCoin, cT]; done) | (simp only [fa89 63 (by decide), ea71, fa65 63 (by decide), qm57, kg1.fa 51 rfl, fa61 63 (by decide), kg1.fa 63 rfl, sMn, sMx, cGive, cRest, cCoin, cT]; rfl)) (fun u hu => match u, hu with | 0, _ => (Eq.trans (show a89 65 = cRow 50 a 0 from by rw [cRow_lt (p := 50) (a := a) (by decide : 0 < 8)]; first | rfl | (simp only [fa89 65 (by decide), fa71 65 (by decide), fa65 65 (by decide), fa61 65 (by decide), kg1.fa 65 rfl, sMn, sMx, cCoin, cT]; done) | (simp only [fa89 65 (by decide), fa71 65 (by decide), fa65 65 (by decide), fa61 65 (by decide), kg1.fa 65 rfl, sMn, sMx, cCoin, cT]; rfl)) (cG_f (c := x1) (T := (cT 50 i a)) (u := 0) (ow19 w87) (ow145 w87))) | 1, _ => (Eq.trans (show a89 66 = cRow 50 a 1 from by rw [cRow_lt (p := 50) (a := a) (by decide : 1 < 8)]; first | rfl | (simp only [fa89 66 (by decide), fa71 66 (by decide), fa65 66 (by decide), fa61 66 (by decide), kg1.fa 66 rfl, sMn, sMx, cCoin, cT]; done) | (simp only [fa89 66 (by decide), fa71 66 (by decide), fa65 66 (by decide), fa61 66 (by decide), kg1.fa 66 rfl, sMn, sMx, cCoin, cT]; rfl)) (cG_f (c := x1) (T := (cT 50 i a)) (u := 1) (ow19 w87) (ow146 w87))) | 2, _ => (Eq.trans (show a89 67 = cRow 50 a 2 from by rw [cRow_lt (p := 50) (a := a) (by decide : 2 < 8)]; first | rfl | (simp only [fa89 67 (by decide), fa71 67 (by decide), fa65 67 (by decide), fa61 67 (by decide), kg1.fa 67 rfl, sMn, sMx, cCoin, cT]; done) | (simp only [fa89 67 (by decide), fa71 67 (by decide), fa65 67 (by decide), fa61 67 (by decide), kg1.fa 67 rfl, sMn, sMx, cCoin, cT]; rfl)) (cG_f (c := x1) (T := (cT 50 i a)) (u := 2) (ow19 w87) (ow147 w87))) | 3, _ => (Eq.trans (show a89 68 = cRow 50 a 3 from by rw [cRow_lt (p := 50) (a := a) (by decide : 3 < 8)]; first | rfl | (simp only [fa89 68 (by decide), fa71 68 (by decide), fa65 68 (by decide), fa61 68 (by decide), kg1.fa 68 rfl, sMn, sMx, cCoin, cT]; done) | (simp only [fa89 68 (by decide), fa71 68 (by decide), fa65 68 (by decide), fa61 68 (by decide), kg1.fa 68 rfl, sMn, sMx, cCoin, cT]; rfl)) (cG_f (c := x1) (T := (cT 50 i a)) (u := 3) (ow19 w87) (ow148 w87))) | 4, _ => (Eq.trans (show a89 69 = cRow 50 a 4 from by rw [cRow_lt (p := 50) (a := a) (by decide : 4 < 8)]; first | rfl | (simp only [fa89 69 (by decide), fa71 69 (by decide), fa65 69 (by decide), fa61 69 (by decide), kg1.fa 69 rfl, sMn, sMx, cCoin, cT]; done) | (simp only [fa89 69 (by decide), fa71 69 (by decide), fa65 69 (by decide), fa61 69 (by decide), kg1.fa 69 rfl, sMn, sMx, cCoin, cT]; rfl)) (cG_f (c := x1) (T := (cT 50 i a)) (u := 4) (ow19 w87) (ow149 w87))) | 5, _ => (Eq.trans (show a89 70 = (cRow 50 a 5).set x1.toNatClampNeg ((cRow 50 a 5).getD x1.toNatClampNeg 0 + cCoin (cT 50 i a)) from by rw [cRow_lt (p := 50) (a := a) (by decide : 5 < 8)]; first | rfl | (simp only [ea89, fa71 70 (by decide), qm57, kg1.fa 51 rfl, fa65 70 (by decide), fa61 70 (by decide), kg1.fa 70 rfl, sMn, sMx, cCoin, cT]; done) | (simp only [ea89, fa71 70 (by decide), qm57, kg1.fa 51 rfl, fa65 70 (by decide), fa61 70 (by decide), kg1.fa 70 rfl, sMn, sMx, cCoin, cT]; rfl)) (cG_t (c := x1) (T := (cT 50 i a)) (u := 5) (ow150 w87))) | 6, _ => (Eq.trans (show a89 71 = cRow 50 a 6 from by rw [cRow_lt (p := 50) (a := a) (by decide : 6 < 8)]; first | rfl | (simp only [fa89 71 (by decide), fa71 71 (by decide), fa65 71 (by decide), fa61 71 (by decide), kg1.fa 71 rfl, sMn, sMx, cCoin, cT]; done) | (simp only [fa89 71 (by decide), fa71 71 (by decide), fa65 71 (by decide), fa61 71 (by decide), kg1.fa 71 rfl, sMn, sMx, cCoin, cT]; rfl)) (cG_f (c := x1) (T := (cT 50 i a)) (u := 6) (ow19 w87) (ow151 w87))) | 7, _ => (Eq.trans (show a89 72 = cRow 50 a 7 from by rw [cRow_lt (p := 50) (a := a) (by decide : 7 < 8)]; first | rfl | (simp only [fa89 72 (by decide), fa71 72 (by decide), fa65 72 (by decide), fa61 72 (by decide), kg1.fa 72 rfl, sMn, sMx, cCoin, cT]; done) | (simp only [fa89 72 (by decide), fa71 72 (by decide), fa65 72 (by decide), fa61 72 (by decide), kg1.fa 72 rfl, sMn, sMx, cCoin, cT]; rfl)) (cG_f (c := x1) (T := (cT 50 i a)) (u := 7) (ow19 w87) (ow152 w87))) | _ + 8, h => absurd h (by omega)) (fun u hu => (cG_f (c := x1) (T := (cT 50 i a)) (ow19 w87) (kj_big hu (ow153 w87))).symm.trans (cRow_ge hu))).trans (show cGive x1 (cT 50 i a) = cPay (i 3200) x1 (cT 50 i a) from (if_pos (ow144 c54 efig1_3200 w87 z56.2)).symm))⟩)
        by_cases w90 : ((a 57).getD (0 : Int32).toNatClampNeg 0).toInt = 6
        ·
          refine ft_alx mi_k30 (pc := 128) (v := 6) (p := 64) (z := 71) (kj_eq w90 (by decide) : ((a 57).getD (0 : Int32).toNatClampNeg 0) = 6) (by decide +kernel) (by decide +kernel) ?_
          refine fo_goS mi_k30 fz30_129_2_131 [.int x1, .ref 71, .int x1, .ref 71] rfl ?_
          refine ko_iald3 mi_k30.1 (n := 8) (c := 8) (ax := (0, 0, 0, 0, 0)) (mi_k30.2 _ _ (by rfl)) (by rfl) (ksG71 _ _ _ _) (hJ71.I.2.1 71) rfl (ow4 hp0.1) (ow7 hp0.2) ?_
          have b91 : ((-2147483648 : Int) ≤ ((a71 71).getD x1.toNatClampNeg 0).toInt) ∧ (((a71 71).getD x1.toNatClampNeg 0).toInt ≤ 2147483647) := kd_bd ((a71 71).getD x1.toNatClampNeg 0)
          refine fo_goS mi_k30 fz30_132_2_135 [.int (((a71 71).getD x1.toNatClampNeg 0) + m57), .int x1, .ref 71] rfl ?_
          refine ko_iast3 mi_k30.1 (n := 8) (c := 8) (ax := (0, 0, 0, 0, 0)) (mi_k30.2 _ _ (by rfl)) (by rfl) (ksG71 _ _ _ _) (ksA71 _ _ _ _) (hJ71.I.2.1 71) rfl (ow4 hp0.1) (ow7 hp0.2) ?_
          intro a92 ea92 fa92
          have hJ92 := kG_a3 hJ71 71 rfl ea92 fa92 (kd_bd _)
          exact ft_ret mi_k30 (by rfl) (hP  _ _ _ _ hJ92 ⟨(ow89 z2), ((cT_eq (p := 50) (i := ku (ku ig1 3214 ((a 57).getD (0 : Int32).toNatClampNeg 0)) 3215 ((ig1 3215) + m57)) (a := a92) (T := cGive x1 (cT 50 i a)) (show ig1 3586 = (cGive x1 (cT 50 i a)).1 from by first | rfl | (simp only [q3, sMn, sMx, cGive, cRest, cCoin, cT]; done) | (simp only [q3, sMn, sMx, cGive, cRest, cCoin, cT]; rfl)) (show a92 57 = (cGive x1 (cT 50 i a)).2.1 from by first | rfl | (simp only [fa92 57 (by decide), fa71 57 (by decide), fa65 57 (by decide), fa61 57 (by decide), q4, sMn, sMx, cGive, cRest, cCoin, cT]; done) | (simp only [fa92 57 (by decide), fa71 57 (by decide), fa65 57 (by decide), fa61 57 (by decide), q4, sMn, sMx, cGive, cRest, cCoin, cT]; rfl)) (show a92 58 = (cGive x1 (cT 50 i a)).2.2.1 from by first | rfl | (simp only [fa92 58 (by decide), fa71 58 (by decide), fa65 58 (by decide), fa61 58 (by decide), q5, sMn, sMx, cGive, cRest, cCoin, cT]; done) | (simp only [fa92 58 (by decide), fa71 58 (by decide), fa65 58 (by decide), fa61 58 (by decide), q5, sMn, sMx, cGive, cRest, cCoin, cT]; rfl)) (show a92 51 = (cGive x1 (cT 50 i a)).2.2.2.1 from by first | rfl | (simp only [fa92 51 (by decide), fa71 51 (by decide), ea65, ea61, qm63, qm57, kg1.fa 51 rfl, sMn, sMx, cGive, cRest, cCoin, cT]; done) | (simp only [fa92 51 (by decide), fa71 51 (by decide), ea65, ea61, qm63, qm57, kg1.fa 51 rfl, sMn, sMx, cGive, cRest, cCoin, cT]; rfl)) (cY_pos (y := i 3214) (d := (a 57).getD 0 0) (ow178 c51 efig1_3214 kow8)) (show ((ig1 3215) + m57) = (cGive x1 (cT 50 i a)).2.2.2.2.2.1 from by first | rfl | (simp only [(show ig1 3215 = i 3215 from kg1.fi 3215 rfl), qm57, kg1.fa 51 rfl, sMn, sMx, cGive, cRest, cCoin, cT]; done) | (simp only [(show ig1 3215 = i 3215 from kg1.fi 3215 rfl), qm57, kg1.fa 51 rfl, sMn, sMx, cGive, cRest, cCoin, cT]; rfl)) (show a92 63 = (cGive x1 (cT 50 i a)).2.2.2.2.2.2.1 from by first | rfl | (simp only [fa92 63 (by decide), ea71, fa65 63 (by decide), qm57, kg1.fa 51 rfl, fa61 63 (by decide), kg1.fa 63 rfl, sMn, sMx, cGive, cRest, cCoin, cT]; done) | (simp only [fa92 63 (by decide), ea71, fa65 63 (by decide), qm57, kg1.fa 51 rfl, fa61 63 (by decide), kg1.fa 63 rfl, sMn, sMx, cGive, cRest, cCoin, cT]; rfl)) (fun u hu => match u, hu with | 0, _ => (Eq.trans (show a92 65 = cRow 50 a 0 from by rw [cRow_lt (p := 50) (a := a) (by decide : 0 < 8)]; first | rfl | (simp only [fa92 65 (by decide), fa71 65 (by decide), fa65 65 (by decide), fa61 65 (by decide), kg1.fa 65 rfl, sMn, sMx, cCoin, cT]; done) | (simp only [fa92 65 (by decide), fa71 65 (by decide), fa65 65 (by decide), fa61 65 (by decide), kg1.fa 65 rfl, sMn, sMx, cCoin, cT]; rfl)) (cG_f (c := x1) (T := (cT 50 i a)) (u := 0) (ow155 w90) (ow156 w90))) | 1, _ => (Eq.trans (show a92 66 = cRow 50 a 1 from by rw [cRow_lt (p := 50) (a := a) (by decide : 1 < 8)]; first | rfl | (simp only [fa92 66 (by decide), fa71 66 (by decide), fa65 66 (by decide), fa61 66 (by decide), kg1.fa 66 rfl, sMn, sMx, cCoin, cT]; done) | (simp only [fa92 66 (by decide), fa71 66 (by decide), fa65 66 (by decide), fa61 66 (by decide), kg1.fa 66 rfl, sMn, sMx, cCoin, cT]; rfl)) (cG_f (c := x1) (T := (cT 50 i a)) (u := 1) (ow155 w90) (ow157 w90))) | 2, _ => (Eq.trans (show a92 67 = cRow 50 a 2 from by rw [cRow_lt (p := 50) (a := a) (by decide : 2 < 8)]; first | rfl | (simp only [fa92 67 (by decide), fa71 67 (by decide), fa65 67 (by decide), fa61 67 (by decide), kg1.fa 67 rfl, sMn, sMx, cCoin, cT]; done) | (simp only [fa92 67 (by decide), fa71 67 (by decide), fa65 67 (by decide), fa61 67 (by decide), kg1.fa 67 rfl, sMn, sMx, cCoin, cT]; rfl)) (cG_f (c := x1) (T := (cT 50 i a)) (u := 2) (ow155 w90) (ow158 w90))) | 3, _ => (Eq.trans (show a92 68 = cRow 50 a 3 from by rw [cRow_lt (p := 50) (a := a) (by decide : 3 < 8)]; first | rfl | (simp only [fa92 68 (by decide), fa71 68 (by decide), fa65 68 (by decide), fa61 68 (by decide), kg1.fa 68 rfl, sMn, sMx, cCoin, cT]; done) | (simp only [fa92 68 (by decide), fa71 68 (by decide), fa65 68 (by decide), fa61 68 (by decide), kg1.fa 68 rfl, sMn, sMx, cCoin, cT]; rfl)) (cG_f (c := x1) (T := (cT 50 i a)) (u := 3) (ow155 w90) (ow159 w90))) | 4, _ => (Eq.trans (show a92 69 = cRow 50 a 4 from by rw [cRow_lt (p := 50) (a := a) (by decide : 4 < 8)]; first | rfl | (simp only [fa92 69 (by decide), fa71 69 (by decide), fa65 69 (by decide), fa61 69 (by decide), kg1.fa 69 rfl, sMn, sMx, cCoin, cT]; done) | (simp only [fa92 69 (by decide), fa71 69 (by decide), fa65 69 (by decide), fa61 69 (by decide), kg1.fa 69 rfl, sMn, sMx, cCoin, cT]; rfl)) (cG_f (c := x1) (T := (cT 50 i a)) (u := 4) (ow155 w90) (ow160 w90))) | 5, _ => (Eq.trans (show a92 70 = cRow 50 a 5 from by rw [cRow_lt (p := 50) (a := a) (by decide : 5 < 8)]; first | rfl | (simp only [fa92 70 (by decide), fa71 70 (by decide), fa65 70 (by decide), fa61 70 (by decide), kg1.fa 70 rfl, sMn, sMx, cCoin, cT]; done) | (simp only [fa92 70 (by decide), fa71 70 (by decide), fa65 70 (by decide), fa61 70 (by decide), kg1.fa 70 rfl, sMn, sMx, cCoin, cT]; rfl)) (cG_f (c := x1) (T := (cT 50 i a)) (u := 5) (ow155 w90) (ow161 w90))) | 6, _ => (Eq.trans (show a92 71 = (cRow 50 a 6).set x1.toNatClampNeg ((cRow 50 a 6).getD x1.toNatClampNeg 0 + cCoin (cT 50 i a)) from by rw [cRow_lt (p := 50) (a := a) (by decide : 6 < 8)]; first | rfl | (simp only [ea92, fa71 71 (by decide), qm57, kg1.fa 51 rfl, fa65 71 (by decide), fa61 71 (by decide), kg1.fa 71 rfl, sMn, sMx, cCoin, cT]; done) | (simp only [ea92, fa71 71 (by decide), qm57, kg1.fa 51 rfl, fa65 71 (by decide), fa61 71 (by decide), kg1.fa 71 rfl, sMn, sMx, cCoin, cT]; rfl)) (cG_t (c := x1) (T := (cT 50 i a)) (u := 6) (ow162 w90))) | 7, _ => (Eq.trans (show a92 72 = cRow 50 a 7 from by rw [cRow_lt (p := 50) (a := a) (by decide : 7 < 8)]; first | rfl | (simp only [fa92 72 (by decide), fa71 72 (by decide), fa65 72 (by decide), fa61 72 (by decide), kg1.fa 72 rfl, sMn, sMx, cCoin, cT]; done) | (simp only [fa92 72 (by decide), fa71 72 (by decide), fa65 72 (by decide), fa61 72 (by decide), kg1.fa 72 rfl, sMn, sMx, cCoin, cT]; rfl)) (cG_f (c := x1) (T := (cT 50 i a)) (u := 7) (ow155 w90) (ow163 w90))) | _ + 8, h => absurd h (by omega)) (fun u hu => (cG_f (c := x1) (T := (cT 50 i a)) (ow155 w90) (kj_big hu (ow164 w90))).symm.trans (cRow_ge hu))).trans (show cGive x1 (cT 50 i a) = cPay (i 3200) x1 (cT 50 i a) from (if_pos (ow154 c54 efig1_3200 w90 z56.2)).symm))⟩)
        by_cases w93 : ((a 57).getD (0 : Int32).toNatClampNeg 0).toInt = 7
        ·
          refine ft_alx mi_k30 (pc := 128) (v := 7) (p := 64) (z := 72) (kj_eq w93 (by decide) : ((a 57).getD (0 : Int32).toNatClampNeg 0) = 7) (by decide +kernel) (by decide +kernel) ?_
          refine fo_goS mi_k30 fz30_129_2_131 [.int x1, .ref 72, .int x1, .ref 72] rfl ?_
          refine ko_iald3 mi_k30.1 (n := 8) (c := 8) (ax := (0, 0, 0, 0, 0)) (mi_k30.2 _ _ (by rfl)) (by rfl) (ksG72 _ _ _ _) (hJ71.I.2.1 72) rfl (ow4 hp0.1) (ow7 hp0.2) ?_
          have b94 : ((-2147483648 : Int) ≤ ((a71 72).getD x1.toNatClampNeg 0).toInt) ∧ (((a71 72).getD x1.toNatClampNeg 0).toInt ≤ 2147483647) := kd_bd ((a71 72).getD x1.toNatClampNeg 0)
          refine fo_goS mi_k30 fz30_132_2_135 [.int (((a71 72).getD x1.toNatClampNeg 0) + m57), .int x1, .ref 72] rfl ?_
          refine ko_iast3 mi_k30.1 (n := 8) (c := 8) (ax := (0, 0, 0, 0, 0)) (mi_k30.2 _ _ (by rfl)) (by rfl) (ksG72 _ _ _ _) (ksA72 _ _ _ _) (hJ71.I.2.1 72) rfl (ow4 hp0.1) (ow7 hp0.2) ?_
          intro a95 ea95 fa95
          have hJ95 := kG_a3 hJ71 72 rfl ea95 fa95 (kd_bd _)
          exact ft_ret mi_k30 (by rfl) (hP  _ _ _ _ hJ95 ⟨(ow89 z2), ((cT_eq (p := 50) (i := ku (ku ig1 3214 ((a 57).getD (0 : Int32).toNatClampNeg 0)) 3215 ((ig1 3215) + m57)) (a := a95) (T := cGive x1 (cT 50 i a)) (show ig1 3586 = (cGive x1 (cT 50 i a)).1 from by first | rfl | (simp only [q3, sMn, sMx, cGive, cRest, cCoin, cT]; done) | (simp only [q3, sMn, sMx, cGive, cRest, cCoin, cT]; rfl)) (show a95 57 = (cGive x1 (cT 50 i a)).2.1 from by first | rfl | (simp only [fa95 57 (by decide), fa71 57 (by decide), fa65 57 (by decide), fa61 57 (by decide), q4, sMn, sMx, cGive, cRest, cCoin, cT]; done) | (simp only [fa95 57 (by decide), fa71 57 (by decide), fa65 57 (by decide), fa61 57 (by decide), q4, sMn, sMx, cGive, cRest, cCoin, cT]; rfl)) (show a95 58 = (cGive x1 (cT 50 i a)).2.2.1 from by first | rfl | (simp only [fa95 58 (by decide), fa71 58 (by decide), fa65 58 (by decide), fa61 58 (by decide), q5, sMn, sMx, cGive, cRest, cCoin, cT]; done) | (simp only [fa95 58 (by decide), fa71 58 (by decide), fa65 58 (by decide), fa61 58 (by decide), q5, sMn, sMx, cGive, cRest, cCoin, cT]; rfl)) (show a95 51 = (cGive x1 (cT 50 i a)).2.2.2.1 from by first | rfl | (simp only [fa95 51 (by decide), fa71 51 (by decide), ea65, ea61, qm63, qm57, kg1.fa 51 rfl, sMn, sMx, cGive, cRest, cCoin, cT]; done) | (simp only [fa95 51 (by decide), fa71 51 (by decide), ea65, ea61, qm63, qm57, kg1.fa 51 rfl, sMn, sMx, cGive, cRest, cCoin, cT]; rfl)) (cY_pos (y := i 3214) (d := (a 57).getD 0 0) (ow178 c51 efig1_3214 kow8)) (show ((ig1 3215) + m57) = (cGive x1 (cT 50 i a)).2.2.2.2.2.1 from by first | rfl | (simp only [(show ig1 3215 = i 3215 from kg1.fi 3215 rfl), qm57, kg1.fa 51 rfl, sMn, sMx, cGive, cRest, cCoin, cT]; done) | (simp only [(show ig1 3215 = i 3215 from kg1.fi 3215 rfl), qm57, kg1.fa 51 rfl, sMn, sMx, cGive, cRest, cCoin, cT]; rfl)) (show a95 63 = (cGive x1 (cT 50 i a)).2.2.2.2.2.2.1 from by first | rfl | (simp only [fa95 63 (by decide), ea71, fa65 63 (by decide), qm57, kg1.fa 51 rfl, fa61 63 (by decide), kg1.fa 63 rfl, sMn, sMx, cGive, cRest, cCoin, cT]; done) | (simp only [fa95 63 (by decide), ea71, fa65 63 (by decide), qm57, kg1.fa 51 rfl, fa61 63 (by decide), kg1.fa 63 rfl, sMn, sMx, cGive, cRest, cCoin, cT]; rfl)) (fun u hu => match u, hu with | 0, _ => (Eq.trans (show a95 65 = cRow 50 a 0 from by rw [cRow_lt (p := 50) (a := a) (by decide : 0 < 8)]; first | rfl | (simp only [fa95 65 (by decide), fa71 65 (by decide), fa65 65 (by decide), fa61 65 (by decide), kg1.fa 65 rfl, sMn, sMx, cCoin, cT]; done) | (simp only [fa95 65 (by decide), fa71 65 (by decide), fa65 65 (by decide), fa61 65 (by decide), kg1.fa 65 rfl, sMn, sMx, cCoin, cT]; rfl)) (cG_f (c := x1) (T := (cT 50 i a)) (u := 0) (ow166 w93) (ow167 w93))) | 1, _ => (Eq.trans (show a95 66 = cRow 50 a 1 from by rw [cRow_lt (p := 50) (a := a) (by decide : 1 < 8)]; first | rfl | (simp only [fa95 66 (by decide), fa71 66 (by decide), fa65 66 (by decide), fa61 66 (by decide), kg1.fa 66 rfl, sMn, sMx, cCoin, cT]; done) | (simp only [fa95 66 (by decide), fa71 66 (by decide), fa65 66 (by decide), fa61 66 (by decide), kg1.fa 66 rfl, sMn, sMx, cCoin, cT]; rfl)) (cG_f (c := x1) (T := (cT 50 i a)) (u := 1) (ow166 w93) (ow168 w93))) | 2, _ => (Eq.trans (show a95 67 = cRow 50 a 2 from by rw [cRow_lt (p := 50) (a := a) (by decide : 2 < 8)]; first | rfl | (simp only [fa95 67 (by decide), fa71 67 (by decide), fa65 67 (by decide), fa61 67 (by decide), kg1.fa 67 rfl, sMn, sMx, cCoin, cT]; done) | (simp only [fa95 67 (by decide), fa71 67 (by decide), fa65 67 (by decide), fa61 67 (by decide), kg1.fa 67 rfl, sMn, sMx, cCoin, cT]; rfl)) (cG_f (c := x1) (T := (cT 50 i a)) (u := 2) (ow166 w93) (ow169 w93))) | 3, _ => (Eq.trans (show a95 68 = cRow 50 a 3 from by rw [cRow_lt (p := 50) (a := a) (by decide : 3 < 8)]; first | rfl | (simp only [fa95 68 (by decide), fa71 68 (by decide), fa65 68 (by decide), fa61 68 (by decide), kg1.fa 68 rfl, sMn, sMx, cCoin, cT]; done) | (simp only [fa95 68 (by decide), fa71 68 (by decide), fa65 68 (by decide), fa61 68 (by decide), kg1.fa 68 rfl, sMn, sMx, cCoin, cT]; rfl)) (cG_f (c := x1) (T := (cT 50 i a)) (u := 3) (ow166 w93) (ow170 w93))) | 4, _ => (Eq.trans (show a95 69 = cRow 50 a 4 from by rw [cRow_lt (p := 50) (a := a) (by decide : 4 < 8)]; first | rfl | (simp only [fa95 69 (by decide), fa71 69 (by decide), fa65 69 (by decide), fa61 69 (by decide), kg1.fa 69 rfl, sMn, sMx, cCoin, cT]; done) | (simp only [fa95 69 (by decide), fa71 69 (by decide), fa65 69 (by decide), fa61 69 (by decide), kg1.fa 69 rfl, sMn, sMx, cCoin, cT]; rfl)) (cG_f (c := x1) (T := (cT 50 i a)) (u := 4) (ow166 w93) (ow171 w93))) | 5, _ => (Eq.trans (show a95 70 = cRow 50 a 5 from by rw [cRow_lt (p := 50) (a := a) (by decide : 5 < 8)]; first | rfl | (simp only [fa95 70 (by decide), fa71 70 (by decide), fa65 70 (by decide), fa61 70 (by decide), kg1.fa 70 rfl, sMn, sMx, cCoin, cT]; done) | (simp only [fa95 70 (by decide), fa71 70 (by decide), fa65 70 (by decide), fa61 70 (by decide), kg1.fa 70 rfl, sMn, sMx, cCoin, cT]; rfl)) (cG_f (c := x1) (T := (cT 50 i a)) (u := 5) (ow166 w93) (ow172 w93))) | 6, _ => (Eq.trans (show a95 71 = cRow 50 a 6 from by rw [cRow_lt (p := 50) (a := a) (by decide : 6 < 8)]; first | rfl | (simp only [fa95 71 (by decide), fa71 71 (by decide), fa65 71 (by decide), fa61 71 (by decide), kg1.fa 71 rfl, sMn, sMx, cCoin, cT]; done) | (simp only [fa95 71 (by decide), fa71 71 (by decide), fa65 71 (by decide), fa61 71 (by decide), kg1.fa 71 rfl, sMn, sMx, cCoin, cT]; rfl)) (cG_f (c := x1) (T := (cT 50 i a)) (u := 6) (ow166 w93) (ow173 w93))) | 7, _ => (Eq.trans (show a95 72 = (cRow 50 a 7).set x1.toNatClampNeg ((cRow 50 a 7).getD x1.toNatClampNeg 0 + cCoin (cT 50 i a)) from by rw [cRow_lt (p := 50) (a := a) (by decide : 7 < 8)]; first | rfl | (simp only [ea95, fa71 72 (by decide), qm57, kg1.fa 51 rfl, fa65 72 (by decide), fa61 72 (by decide), kg1.fa 72 rfl, sMn, sMx, cCoin, cT]; done) | (simp only [ea95, fa71 72 (by decide), qm57, kg1.fa 51 rfl, fa65 72 (by decide), fa61 72 (by decide), kg1.fa 72 rfl, sMn, sMx, cCoin, cT]; rfl)) (cG_t (c := x1) (T := (cT 50 i a)) (u := 7) (ow174 w93))) | _ + 8, h => absurd h (by omega)) (fun u hu => (cG_f (c := x1) (T := (cT 50 i a)) (ow166 w93) (kj_big hu (ow175 w93))).symm.trans (cRow_ge hu))).trans (show cGive x1 (cT 50 i a) = cPay (i 3200) x1 (cT 50 i a) from (if_pos (ow165 c54 efig1_3200 hp0.2 w93 z56.2)).symm))⟩)
        exact (ow176 fig1_3200.2 w72 w75 w78 w81 w84 w87 w90 w93 z56.1 z56.2).elim
      ·
        subst eg55
        have efig1_3200 : (ig1 3200).toInt = (i 3200).toInt := kg1.ti 3200 rfl
        have z96 : ¬ (((0 : Int) ≤ ((a 57).getD (0 : Int32).toNatClampNeg 0).toInt) ∧ (((a 57).getD (0 : Int32).toNatClampNeg 0).toInt < (ig1 3200).toInt)) := hg55
        first | refine fo_goS mi_k30 fz30_51_1_54 [] (by rfl) ?_ | refine ft_goS mi_k30 1 54 [] (by rfl) ?_ | refine ko_steps mi_in30 1 _ (54, [(3, .int ((a 58).getD (0 : Int32).toNatClampNeg 0)), (2, .int ((a 57).getD (0 : Int32).toNatClampNeg 0)), (0, .ref 50), (1, .int x1)], [], (0, 0), ks (ku ig1 3214 ((a 57).getD (0 : Int32).toNatClampNeg 0)) ag1 qg1 rg1) (by rfl) ?_
        exact ft_ret mi_k30 (by rfl) (hP  _ _ _ _ hJ52 ⟨(ow89 z2), ((cT_eq (p := 50) (i := ku ig1 3214 ((a 57).getD (0 : Int32).toNatClampNeg 0)) (a := ag1) (T := cRest (cT 50 i a)) (show ig1 3586 = (cRest (cT 50 i a)).1 from by first | rfl | (simp only [q3, sMn, sMx, cGive, cRest, cCoin, cT]; done) | (simp only [q3, sMn, sMx, cGive, cRest, cCoin, cT]; rfl)) (show ag1 57 = (cRest (cT 50 i a)).2.1 from by first | rfl | (simp only [q4, sMn, sMx, cGive, cRest, cCoin, cT]; done) | (simp only [q4, sMn, sMx, cGive, cRest, cCoin, cT]; rfl)) (show ag1 58 = (cRest (cT 50 i a)).2.2.1 from by first | rfl | (simp only [q5, sMn, sMx, cGive, cRest, cCoin, cT]; done) | (simp only [q5, sMn, sMx, cGive, cRest, cCoin, cT]; rfl)) (show ag1 51 = (cRest (cT 50 i a)).2.2.2.1 from by first | rfl | (simp only [kg1.fa 51 rfl, sMn, sMx, cGive, cRest, cCoin, cT]; done) | (simp only [kg1.fa 51 rfl, sMn, sMx, cGive, cRest, cCoin, cT]; rfl)) (cY_pos (y := i 3214) (d := (a 57).getD 0 0) (ow178 c51 efig1_3214 kow8)) (show ig1 3215 = (cRest (cT 50 i a)).2.2.2.2.2.1 from by first | rfl | (simp only [(show ig1 3215 = i 3215 from kg1.fi 3215 rfl), sMn, sMx, cGive, cRest, cCoin, cT]; done) | (simp only [(show ig1 3215 = i 3215 from kg1.fi 3215 rfl), sMn, sMx, cGive, cRest, cCoin, cT]; rfl)) (show ag1 63 = (cRest (cT 50 i a)).2.2.2.2.2.2.1 from by first | rfl | (simp only [kg1.fa 63 rfl, sMn, sMx, cGive, cRest, cCoin, cT]; done) | (simp only [kg1.fa 63 rfl, sMn, sMx, cGive, cRest, cCoin, cT]; rfl)) (fun u hu => match u, hu with | 0, _ => (show ag1 65 = cRow 50 a 0 from by rw [cRow_lt (p := 50) (a := a) (by decide : 0 < 8)]; first | rfl | (simp only [kg1.fa 65 rfl, sMn, sMx, cCoin, cT]; done) | (simp only [kg1.fa 65 rfl, sMn, sMx, cCoin, cT]; rfl)) | 1, _ => (show ag1 66 = cRow 50 a 1 from by rw [cRow_lt (p := 50) (a := a) (by decide : 1 < 8)]; first | rfl | (simp only [kg1.fa 66 rfl, sMn, sMx, cCoin, cT]; done) | (simp only [kg1.fa 66 rfl, sMn, sMx, cCoin, cT]; rfl)) | 2, _ => (show ag1 67 = cRow 50 a 2 from by rw [cRow_lt (p := 50) (a := a) (by decide : 2 < 8)]; first | rfl | (simp only [kg1.fa 67 rfl, sMn, sMx, cCoin, cT]; done) | (simp only [kg1.fa 67 rfl, sMn, sMx, cCoin, cT]; rfl)) | 3, _ => (show ag1 68 = cRow 50 a 3 from by rw [cRow_lt (p := 50) (a := a) (by decide : 3 < 8)]; first | rfl | (simp only [kg1.fa 68 rfl, sMn, sMx, cCoin, cT]; done) | (simp only [kg1.fa 68 rfl, sMn, sMx, cCoin, cT]; rfl)) | 4, _ => (show ag1 69 = cRow 50 a 4 from by rw [cRow_lt (p := 50) (a := a) (by decide : 4 < 8)]; first | rfl | (simp only [kg1.fa 69 rfl, sMn, sMx, cCoin, cT]; done) | (simp only [kg1.fa 69 rfl, sMn, sMx, cCoin, cT]; rfl)) | 5, _ => (show ag1 70 = cRow 50 a 5 from by rw [cRow_lt (p := 50) (a := a) (by decide : 5 < 8)]; first | rfl | (simp only [kg1.fa 70 rfl, sMn, sMx, cCoin, cT]; done) | (simp only [kg1.fa 70 rfl, sMn, sMx, cCoin, cT]; rfl)) | 6, _ => (show ag1 71 = cRow 50 a 6 from by rw [cRow_lt (p := 50) (a := a) (by decide : 6 < 8)]; first | rfl | (simp only [kg1.fa 71 rfl, sMn, sMx, cCoin, cT]; done) | (simp only [kg1.fa 71 rfl, sMn, sMx, cCoin, cT]; rfl)) | 7, _ => (show ag1 72 = cRow 50 a 7 from by rw [cRow_lt (p := 50) (a := a) (by decide : 7 < 8)]; first | rfl | (simp only [kg1.fa 72 rfl, sMn, sMx, cCoin, cT]; done) | (simp only [kg1.fa 72 rfl, sMn, sMx, cCoin, cT]; rfl)) | _ + 8, h => absurd h (by omega)) (fun u hu => cRow_ge hu)).trans (show cRest (cT 50 i a) = cPay (i 3200) x1 (cT 50 i a) from (if_neg (ow177 efig1_3200 z96)).symm))⟩)
noncomputable def yw29_50 : kW := ([645, 3209, 3214, 3215, 3216, 3586, 3781, 6405], [13, 51, 55, 57, 58, 62, 63, 65, 66, 67, 68, 69, 70, 71, 72, 73, 103], [], [])
noncomputable def yw29_50_L52 : kW := ([3214, 3215, 3586], [51, 57, 58, 63, 65, 66, 67, 68, 69, 70, 71, 72], [], [])
set_option maxRecDepth 100000 in
theorem ke29_50 {i : Nat → Int32} {a : Nat → List Int32} {q : Nat → List Int64} {r : Nat → Nat} (hI : kI i a q) (hr : kr r) (x1 : Int32) (hp0 : ((1 : Int) ≤ (i 3206).toInt) ∧ ((i 3206).toInt ≤ 5)) : km 7 29 [.ref 50, .int x1] (ks i a q r) (kVI yw29_50 i a q r (fun v i1 a1 q1 r1 => (True) ∧ ((((0 : Int) ≤ x1.toInt) ∧ (x1.toInt < (i 3200).toInt) ∧ (¬ (((i 3207).toInt = 0) ∧ (((a 54).getD x1.toNatClampNeg 0).toInt = 1))) → i1 3586 = (cPaid (i 3200) (i 3206) x1 5 (cT0 50 i a)).1 + 1) ∧ (((0 : Int) ≤ x1.toInt) ∧ (x1.toInt < (i 3200).toInt) ∧ (¬ (((i 3207).toInt = 0) ∧ (((a 54).getD x1.toNatClampNeg 0).toInt = 1))) → a1 57 = (cPaid (i 3200) (i 3206) x1 5 (cT0 50 i a)).2.1.set (cPaid (i 3200) (i 3206) x1 5 (cT0 50 i a)).1.toNatClampNeg x1) ∧ (((0 : Int) ≤ x1.toInt) ∧ (x1.toInt < (i 3200).toInt) ∧ (¬ (((i 3207).toInt = 0) ∧ (((a 54).getD x1.toNatClampNeg 0).toInt = 1))) → a1 58 = (cPaid (i 3200) (i 3206) x1 5 (cT0 50 i a)).2.2.1.set (cPaid (i 3200) (i 3206) x1 5 (cT0 50 i a)).1.toNatClampNeg (cBuyV (i (64 * r 1)) (a (r 1 + 1)) (a (r 1 + 2)) (a (r 1 + 3)) (i (64 * r 1 + 3)) ((a 52).getD x1.toNatClampNeg 0) ((a 51).getD x1.toNatClampNeg 0) ((a 53).getD x1.toNatClampNeg 0) (i 3209) ((a 55).getD x1.toNatClampNeg 0) (i 3208))) ∧ (((0 : Int) ≤ x1.toInt) ∧ (x1.toInt < (i 3200).toInt) ∧ (¬ (((i 3207).toInt = 0) ∧ (((a 54).getD x1.toNatClampNeg 0).toInt = 1))) → a1 51 = (cPaid (i 3200) (i 3206) x1 5 (cT0 50 i a)).2.2.2.1) ∧ (((0 : Int) ≤ x1.toInt) ∧ (x1.toInt < (i 3200).toInt) ∧ (¬ (((i 3207).toInt = 0) ∧ (((a 54).getD x1.toNatClampNeg 0).toInt = 1))) → i1 3214 = (cPaid (i 3200) (i 3206) x1 5 (cT0 50 i a)).2.2.2.2.1) ∧ (((0 : Int) ≤ x1.toInt) ∧ (x1.toInt < (i 3200).toInt) ∧ (¬ (((i 3207).toInt = 0) ∧ (((a 54).getD x1.toNatClampNeg 0).toInt = 1))) → i1 3215 = (cPaid (i 3200) (i 3206) x1 5 (cT0 50 i a)).2.2.2.2.2.1) ∧ (((0 : Int) ≤ x1.toInt) ∧ (x1.toInt < (i 3200).toInt) ∧ (¬ (((i 3207).toInt = 0) ∧ (((a 54).getD x1.toNatClampNeg 0).toInt = 1))) → i1 3216 = (cBuyV (i (64 * r 1)) (a (r 1 + 1)) (a (r 1 + 2)) (a (r 1 + 3)) (i (64 * r 1 + 3)) ((a 52).getD x1.toNatClampNeg 0) ((a 51).getD x1.toNatClampNeg 0) ((a 53).getD x1.toNatClampNeg 0) (i 3209) ((a 55).getD x1.toNatClampNeg 0) (i 3208))) ∧ (((0 : Int) ≤ x1.toInt) ∧ (x1.toInt < (i 3200).toInt) ∧ (¬ (((i 3207).toInt = 0) ∧ (((a 54).getD x1.toNatClampNeg 0).toInt = 1))) → i1 3209 = i 3209 + 1) ∧ (((0 : Int) ≤ x1.toInt) ∧ (x1.toInt < (i 3200).toInt) ∧ (¬ (((i 3207).toInt = 0) ∧ (((a 54).getD x1.toNatClampNeg 0).toInt = 1))) → a1 55 = (a 55).set x1.toNatClampNeg ((a 55).getD x1.toNatClampNeg 0 + 1)) ∧ (((0 : Int) ≤ x1.toInt) ∧ (x1.toInt < (i 3200).toInt) ∧ (¬ (((i 3207).toInt = 0) ∧ (((a 54).getD x1.toNatClampNeg 0).toInt = 1))) → a1 63 = ((cPaid (i 3200) (i 3206) x1 5 (cT0 50 i a)).2.2.2.2.2.2.1.set (0 : Int32).toNatClampNeg ((cPaid (i 3200) (i 3206) x1 5 (cT0 50 i a)).2.2.2.2.2.2.1.getD (0 : Int32).toNatClampNeg 0 + 1)).set (1 : Int32).toNatClampNeg (((cPaid (i 3200) (i 3206) x1 5 (cT0 50 i a)).2.2.2.2.2.2.1.set (0 : Int32).toNatClampNeg ((cPaid (i 3200) (i 3206) x1 5 (cT0 50 i a)).2.2.2.2.2.2.1.getD (0 : Int32).toNatClampNeg 0 + 1)).getD (1 : Int32).toNatClampNeg 0 + (cPaid (i 3200) (i 3206) x1 5 (cT0 50 i a)).2.2.2.2.2.1)) ∧ (((0 : Int) ≤ x1.toInt) ∧ (x1.toInt < (i 3200).toInt) ∧ (¬ (((i 3207).toInt = 0) ∧ (((a 54).getD x1.toNatClampNeg 0).toInt = 1))) → v = (cPaid (i 3200) (i 3206) x1 5 (cT0 50 i a)).2.2.2.2.2.1) ∧ (((0 : Int) ≤ x1.toInt) ∧ (x1.toInt < (i 3200).toInt) ∧ (¬ (((i 3207).toInt = 0) ∧ (((a 54).getD x1.toNatClampNeg 0).toInt = 1))) → a1 65 = (cPaid (i 3200) (i 3206) x1 5 (cT0 50 i a)).2.2.2.2.2.2.2 0) ∧ (((0 : Int) ≤ x1.toInt) ∧ (x1.toInt < (i 3200).toInt) ∧ (¬ (((i 3207).toInt = 0) ∧ (((a 54).getD x1.toNatClampNeg 0).toInt = 1))) → a1 66 = (cPaid (i 3200) (i 3206) x1 5 (cT0 50 i a)).2.2.2.2.2.2.2 1) ∧ (((0 : Int) ≤ x1.toInt) ∧ (x1.toInt < (i 3200).toInt) ∧ (¬ (((i 3207).toInt = 0) ∧ (((a 54).getD x1.toNatClampNeg 0).toInt = 1))) → a1 67 = (cPaid (i 3200) (i 3206) x1 5 (cT0 50 i a)).2.2.2.2.2.2.2 2) ∧ (((0 : Int) ≤ x1.toInt) ∧ (x1.toInt < (i 3200).toInt) ∧ (¬ (((i 3207).toInt = 0) ∧ (((a 54).getD x1.toNatClampNeg 0).toInt = 1))) → a1 68 = (cPaid (i 3200) (i 3206) x1 5 (cT0 50 i a)).2.2.2.2.2.2.2 3) ∧ (((0 : Int) ≤ x1.toInt) ∧ (x1.toInt < (i 3200).toInt) ∧ (¬ (((i 3207).toInt = 0) ∧ (((a 54).getD x1.toNatClampNeg 0).toInt = 1))) → a1 69 = (cPaid (i 3200) (i 3206) x1 5 (cT0 50 i a)).2.2.2.2.2.2.2 4) ∧ (((0 : Int) ≤ x1.toInt) ∧ (x1.toInt < (i 3200).toInt) ∧ (¬ (((i 3207).toInt = 0) ∧ (((a 54).getD x1.toNatClampNeg 0).toInt = 1))) → a1 70 = (cPaid (i 3200) (i 3206) x1 5 (cT0 50 i a)).2.2.2.2.2.2.2 5) ∧ (((0 : Int) ≤ x1.toInt) ∧ (x1.toInt < (i 3200).toInt) ∧ (¬ (((i 3207).toInt = 0) ∧ (((a 54).getD x1.toNatClampNeg 0).toInt = 1))) → a1 71 = (cPaid (i 3200) (i 3206) x1 5 (cT0 50 i a)).2.2.2.2.2.2.2 6) ∧ (((0 : Int) ≤ x1.toInt) ∧ (x1.toInt < (i 3200).toInt) ∧ (¬ (((i 3207).toInt = 0) ∧ (((a 54).getD x1.toNatClampNeg 0).toInt = 1))) → a1 72 = (cPaid (i 3200) (i 3206) x1 5 (cT0 50 i a)).2.2.2.2.2.2.2 7) ∧ (¬ (((0 : Int) ≤ x1.toInt) ∧ (x1.toInt < (i 3200).toInt) ∧ (¬ (((i 3207).toInt = 0) ∧ (((a 54).getD x1.toNatClampNeg 0).toInt = 1)))) → i1 3586 = i 3586) ∧ (¬ (((0 : Int) ≤ x1.toInt) ∧ (x1.toInt < (i 3200).toInt) ∧ (¬ (((i 3207).toInt = 0) ∧ (((a 54).getD x1.toNatClampNeg 0).toInt = 1)))) → a1 57 = a 57) ∧ (¬ (((0 : Int) ≤ x1.toInt) ∧ (x1.toInt < (i 3200).toInt) ∧ (¬ (((i 3207).toInt = 0) ∧ (((a 54).getD x1.toNatClampNeg 0).toInt = 1)))) → a1 58 = a 58) ∧ (¬ (((0 : Int) ≤ x1.toInt) ∧ (x1.toInt < (i 3200).toInt) ∧ (¬ (((i 3207).toInt = 0) ∧ (((a 54).getD x1.toNatClampNeg 0).toInt = 1)))) → a1 51 = a 51) ∧ (¬ (((0 : Int) ≤ x1.toInt) ∧ (x1.toInt < (i 3200).toInt) ∧ (¬ (((i 3207).toInt = 0) ∧ (((a 54).getD x1.toNatClampNeg 0).toInt = 1)))) → a1 55 = a 55) ∧ (¬ (((0 : Int) ≤ x1.toInt) ∧ (x1.toInt < (i 3200).toInt) ∧ (¬ (((i 3207).toInt = 0) ∧ (((a 54).getD x1.toNatClampNeg 0).toInt = 1)))) → a1 63 = a 63) ∧ (¬ (((0 : Int) ≤ x1.toInt) ∧ (x1.toInt < (i 3200).toInt) ∧ (¬ (((i 3207).toInt = 0) ∧ (((a 54).getD x1.toNatClampNeg 0).toInt = 1)))) → i1 3214 = 8) ∧ (¬ (((0 : Int) ≤ x1.toInt) ∧ (x1.toInt < (i 3200).toInt) ∧ (¬ (((i 3207).toInt = 0) ∧ (((a 54).getD x1.toNatClampNeg 0).toInt = 1)))) → i1 3215 = 0) ∧ (¬ (((0 : Int) ≤ x1.toInt) ∧ (x1.toInt < (i 3200).toInt) ∧ (¬ (((i 3207).toInt = 0) ∧ (((a 54).getD x1.toNatClampNeg 0).toInt = 1)))) → i1 3216 = 0) ∧ (¬ (((0 : Int) ≤ x1.toInt) ∧ (x1.toInt < (i 3200).toInt) ∧ (¬ (((i 3207).toInt = 0) ∧ (((a 54).getD x1.toNatClampNeg 0).toInt = 1)))) → i1 3209 = i 3209) ∧ (¬ (((0 : Int) ≤ x1.toInt) ∧ (x1.toInt < (i 3200).toInt) ∧ (¬ (((i 3207).toInt = 0) ∧ (((a 54).getD x1.toNatClampNeg 0).toInt = 1)))) → v = 0) ∧ (¬ (((0 : Int) ≤ x1.toInt) ∧ (x1.toInt < (i 3200).toInt) ∧ (¬ (((i 3207).toInt = 0) ∧ (((a 54).getD x1.toNatClampNeg 0).toInt = 1)))) → a1 65 = a 65) ∧ (¬ (((0 : Int) ≤ x1.toInt) ∧ (x1.toInt < (i 3200).toInt) ∧ (¬ (((i 3207).toInt = 0) ∧ (((a 54).getD x1.toNatClampNeg 0).toInt = 1)))) → a1 66 = a 66) ∧ (¬ (((0 : Int) ≤ x1.toInt) ∧ (x1.toInt < (i 3200).toInt) ∧ (¬ (((i 3207).toInt = 0) ∧ (((a 54).getD x1.toNatClampNeg 0).toInt = 1)))) → a1 67 = a 67) ∧ (¬ (((0 : Int) ≤ x1.toInt) ∧ (x1.toInt < (i 3200).toInt) ∧ (¬ (((i 3207).toInt = 0) ∧ (((a 54).getD x1.toNatClampNeg 0).toInt = 1)))) → a1 68 = a 68) ∧ (¬ (((0 : Int) ≤ x1.toInt) ∧ (x1.toInt < (i 3200).toInt) ∧ (¬ (((i 3207).toInt = 0) ∧ (((a 54).getD x1.toNatClampNeg 0).toInt = 1)))) → a1 69 = a 69) ∧ (¬ (((0 : Int) ≤ x1.toInt) ∧ (x1.toInt < (i 3200).toInt) ∧ (¬ (((i 3207).toInt = 0) ∧ (((a 54).getD x1.toNatClampNeg 0).toInt = 1)))) → a1 70 = a 70) ∧ (¬ (((0 : Int) ≤ x1.toInt) ∧ (x1.toInt < (i 3200).toInt) ∧ (¬ (((i 3207).toInt = 0) ∧ (((a 54).getD x1.toNatClampNeg 0).toInt = 1)))) → a1 71 = a 71) ∧ (¬ (((0 : Int) ≤ x1.toInt) ∧ (x1.toInt < (i 3200).toInt) ∧ (¬ (((i 3207).toInt = 0) ∧ (((a 54).getD x1.toNatClampNeg 0).toInt = 1)))) → a1 72 = a 72)))) := by
  have hG := kG_self yw29_50 hI hr
  refine km_ofI (q := (mi_h29, mi_c29)) rfl (by decide) (Nat.le_of_ble_eq_true rfl) ?_
  intro P hP
  have hJ1 := kG_i hG 3214 rfl (v := 8) (kd_bd _)
  have hJ2 := kG_i hJ1 3215 rfl (v := 0) (kd_bd _)
  have hJ3 := kG_i hJ2 3216 rfl (v := 0) (kd_bd _)
  first | refine fo_go mi_k29 fz29_0_11_18 [(0, .ref 50), (1, .int x1)] [.int x1, .ref 50] (ku (ku (ku i 3214 8) 3215 0) 3216 0) a q r (by rfl) ?_ | refine ft_go mi_k29 11 18 [(0, .ref 50), (1, .int x1)] [.int x1, .ref 50] (ku (ku (ku i 3214 8) 3215 0) 3216 0) a q r (by rfl) ?_
  refine ko_callPI mi_k29.1 (pc := 18) (ls := [(0, .ref 50), (1, .int x1)]) (st := [.int x1, .ref 50]) (h := ks (ku (ku (ku i 3214 8) 3215 0) 3216 0) a q r) (i := (.invokevirtual 85, 3, 24, 0, 9, 0, 165)) (mi_k29.2 _ _ (by rfl)) (ft_invS mi_pq24 (by rfl)) (cy := mi_c24) mi_pq24 rfl (kc24_50 hJ3.I hJ3.R x1) (by decide) ?_
  intro vg4 hg4
  rcases hg4 with ⟨eg4, hg4⟩ | ⟨eg4, hg4⟩
  ·
    subst eg4
    have fi_3200 : ((0 : Int) ≤ (i 3200).toInt) ∧ ((i 3200).toInt ≤ 8) := hJ3.I.1 3200
    have z5 : ((0 : Int) ≤ x1.toInt) ∧ (x1.toInt < (i 3200).toInt) := hg4
    refine fo_goS mi_k29 fz29_21_3_28 [.int (i 3207)] rfl ?_
    refine ft_ifS mi_k29 ((i 3207) != 0) 43 31 [] (by rfl) (fun c => ?_) (fun c => ?_)
    ·
      have c6 : (i 3207).toInt ≠ (0 : Int32).toInt := kd_ne c; clear c
      refine fo_goS mi_k29 fz29_43_3_48 [.int x1, .ref 51] rfl ?_
      refine ko_iald3 mi_k29.1 (n := 8) (c := 8) (ax := (0, 0, 0, 0, 0)) (mi_k29.2 _ _ (by rfl)) (by rfl) (ksG51 _ _ _ _) (hJ3.I.2.1 51) rfl (ow4 z5.1) (ow5 fi_3200.2 z5.2) ?_
      first | refine fo_goL mi_k29 fz29_49_3_52 [(3, .int 0), (2, .int ((a 51).getD x1.toNatClampNeg 0)), (0, .ref 50), (1, .int x1)] [] (by rfl) ?_ | refine ft_goL mi_k29 3 52 [(3, .int 0), (2, .int ((a 51).getD x1.toNatClampNeg 0)), (0, .ref 50), (1, .int x1)] [] (by rfl) ?_
      have lp7 : ∀ (nz : Nat) (i7 : Nat → Int32) (a7 : Nat → List Int32) (q7 : Nat → List Int64) (r7 : Nat → Nat) (l3_7 : Int32), kG yw29_50_L52 (ku (ku (ku i 3214 8) 3215 0) 3216 0) a q r i7 a7 q7 r7 → (0 : Int) ≤ l3_7.toInt → (i7 3586).toInt ≤ (5 - l3_7.toInt) → cPaid (i 3200) (i 3206) x1 (5 - l3_7.toInt).toNat (cT 50 i7 a7) = (cPaid (i 3200) (i 3206) x1 5 (cT0 50 i a)) → ((5 - l3_7.toInt)).toNat < nz → ko 7 (mi_h29, mi_c29) P (52, [(3, .int l3_7), (2, .int ((a 51).getD x1.toNatClampNeg 0)), (0, .ref 50), (1, .int x1)], [], (0, 0), ks i7 a7 q7 r7) := by
        intro nz
        induction nz with
        | zero =>
          intro _ _ _ _ _ _ _ _ _ hm
          exact absurd hm (Nat.not_lt_zero _)
        | succ nz ih7 =>
          intro i7 a7 q7 r7 l3_7 hL7 p7_0 p7_1 O7_0 hm7
          refine fo_goL mi_k29 fz29_52_2_54 [(3, .int l3_7), (2, .int ((a 51).getD x1.toNatClampNeg 0)), (0, .ref 50), (1, .int x1)] [.int 5, .int l3_7] rfl ?_
          refine ft_ifS mi_k29 (decide (5 ≤ l3_7)) 82 57 [] (by rfl) (fun c => ?_) (fun c => ?_)
          ·
            have c8 : (5 : Int32).toInt ≤ l3_7.toInt := kd_le c; clear c
            have hG9 := kG_call hJ3 hL7 (by decide +kernel)
            have E10 : cT 50 i7 a7 = (cPaid (i 3200) (i 3206) x1 5 (cT0 50 i a)) := cP_end O7_0 (kj_five0 (ow6 c8 kow5))
            have E10_0 : i7 3586 = (cPaid (i 3200) (i 3206) x1 5 (cT0 50 i a)).1 := (cT_1 E10).1
            have E10_1 : a7 57 = (cPaid (i 3200) (i 3206) x1 5 (cT0 50 i a)).2.1 := (cT_1 E10).2.1
            have E10_2 : a7 58 = (cPaid (i 3200) (i 3206) x1 5 (cT0 50 i a)).2.2.1 := (cT_1 E10).2.2.1
            have E10_3 : a7 51 = (cPaid (i 3200) (i 3206) x1 5 (cT0 50 i a)).2.2.2.1 := (cT_1 E10).2.2.2.1
            have E10_4 : i7 3214 = (cPaid (i 3200) (i 3206) x1 5 (cT0 50 i a)).2.2.2.2.1 := (cT_1 E10).2.2.2.2.1
            have E10_5 : i7 3215 = (cPaid (i 3200) (i 3206) x1 5 (cT0 50 i a)).2.2.2.2.2.1 := (cT_1 E10).2.2.2.2.2.1
            have E10_6 : a7 63 = (cPaid (i 3200) (i 3206) x1 5 (cT0 50 i a)).2.2.2.2.2.2.1 := (cT_1 E10).2.2.2.2.2.2.1
            have E10_r0 : a7 65 = (cPaid (i 3200) (i 3206) x1 5 (cT0 50 i a)).2.2.2.2.2.2.2 0 := (cT_1 E10).2.2.2.2.2.2.2 0 (by decide)
            have E10_r1 : a7 66 = (cPaid (i 3200) (i 3206) x1 5 (cT0 50 i a)).2.2.2.2.2.2.2 1 := (cT_1 E10).2.2.2.2.2.2.2 1 (by decide)
            have E10_r2 : a7 67 = (cPaid (i 3200) (i 3206) x1 5 (cT0 50 i a)).2.2.2.2.2.2.2 2 := (cT_1 E10).2.2.2.2.2.2.2 2 (by decide)
            have E10_r3 : a7 68 = (cPaid (i 3200) (i 3206) x1 5 (cT0 50 i a)).2.2.2.2.2.2.2 3 := (cT_1 E10).2.2.2.2.2.2.2 3 (by decide)
            have E10_r4 : a7 69 = (cPaid (i 3200) (i 3206) x1 5 (cT0 50 i a)).2.2.2.2.2.2.2 4 := (cT_1 E10).2.2.2.2.2.2.2 4 (by decide)
            have E10_r5 : a7 70 = (cPaid (i 3200) (i 3206) x1 5 (cT0 50 i a)).2.2.2.2.2.2.2 5 := (cT_1 E10).2.2.2.2.2.2.2 5 (by decide)
            have E10_r6 : a7 71 = (cPaid (i 3200) (i 3206) x1 5 (cT0 50 i a)).2.2.2.2.2.2.2 6 := (cT_1 E10).2.2.2.2.2.2.2 6 (by decide)
            have E10_r7 : a7 72 = (cPaid (i 3200) (i 3206) x1 5 (cT0 50 i a)).2.2.2.2.2.2.2 7 := (cT_1 E10).2.2.2.2.2.2.2 7 (by decide)
            have er11 : r7 1 = r 1 := hL7.fr 1 rfl
            have el12 : a7 (r 1 + 1) = a (r 1 + 1) := by rcases hr.2 with hz | hz | hz <;> rw [hz] <;> exact hL7.fa _ rfl
            have el13 : a7 (r 1 + 2) = a (r 1 + 2) := by rcases hr.2 with hz | hz | hz <;> rw [hz] <;> exact hL7.fa _ rfl
            have el14 : a7 (r 1 + 3) = a (r 1 + 3) := by rcases hr.2 with hz | hz | hz <;> rw [hz] <;> exact hL7.fa _ rfl
            have el15 : i7 (64 * r 1) = i (64 * r 1) := by rcases hr.2 with hz | hz | hz <;> rw [hz] <;> exact hL7.fi _ rfl
            have el16 : i7 (64 * r 1 + 3) = i (64 * r 1 + 3) := by rcases hr.2 with hz | hz | hz <;> rw [hz] <;> exact hL7.fi _ rfl
            refine fo_goS mi_k29 fz29_82_4_86 [.int ((a 51).getD x1.toNatClampNeg 0), .int x1, .ref 50, .ref 50] rfl ?_
            refine ko_callI mi_k29.1 (pc := 86) (ls := [(3, .int l3_7), (2, .int ((a 51).getD x1.toNatClampNeg 0)), (0, .ref 50), (1, .int x1)]) (st := [.int ((a 51).getD x1.toNatClampNeg 0), .int x1, .ref 50, .ref 50]) (h := ks i7 a7 q7 r7) (i := (.invokevirtual 100, 3, 31, 0, 9, 0, 223)) (mi_k29.2 _ _ (by rfl)) (ft_invS mi_pq31 (by rfl)) (cy := mi_c31) mi_pq31 rfl (ke31_50 hG9.I hG9.R x1 ((a 51).getD x1.toNatClampNeg 0) (ow67 fi_3200.2 z5.1 z5.2)) (by decide) ?_
            intro vg17 ig17 ag17 qg17 rg17 kg17 hg17
            have hGg17 := kG_call hG9 kg17 (by decide +kernel)
            obtain ⟨hg17, og17⟩ := hg17
            have q18 : vg17 = cBuyV (i7 (64 * r7 1)) (a7 (r7 1 + 1)) (a7 (r7 1 + 2)) (a7 (r7 1 + 3)) (i7 (64 * r7 1 + 3)) ((a7 52).getD x1.toNatClampNeg 0) ((a 51).getD x1.toNatClampNeg 0) ((a7 53).getD x1.toNatClampNeg 0) (i7 3209) ((a7 55).getD x1.toNatClampNeg 0) (i7 3208) := og17
            have hJ19 := kG_i hGg17 3216 rfl (v := vg17) (kd_bd _)
            first | refine fo_goI mi_k29 fz29_89_6_101 [.int vg17, .int x1, .ref 56] (ku ig17 3216 vg17) (by rfl) ?_ | refine ft_go mi_k29 6 101 [(3, .int l3_7), (2, .int ((a 51).getD x1.toNatClampNeg 0)), (0, .ref 50), (1, .int x1)] [.int vg17, .int x1, .ref 56] (ku ig17 3216 vg17) ag17 qg17 rg17 (by rfl) ?_
            have efig17_3586 : (ig17 3586).toInt = (i7 3586).toInt := kg17.ti 3586 rfl
            refine ko_callN mi_k29.1 (pc := 101) (ls := [(3, .int l3_7), (2, .int ((a 51).getD x1.toNatClampNeg 0)), (0, .ref 50), (1, .int x1)]) (st := [.int vg17, .int x1, .ref 56]) (h := ks (ku ig17 3216 vg17) ag17 qg17 rg17) (i := (.invokevirtual 104, 3, 1, 0, 9, 0, 228)) (mi_k29.2 _ _ (by rfl)) (ft_invS mi_pq1 (by rfl)) (cy := mi_c1) mi_pq1 rfl (kf1_56 hJ19.I hJ19.R x1 vg17 (ow73 c8 efig17_3586 p7_1 kow5)) (by decide) ?_
            intro ig20 ag20 qg20 rg20 kg20 hg20
            have hGg20 := kG_call hJ19 kg20 (by decide +kernel)
            obtain ⟨hg20, og20⟩ := hg20
            have q22 : ag20 57 = (ag17 57).set (ig17 3586).toNatClampNeg x1 := og20.1
            have q23 : ag20 58 = (ag17 58).set (ig17 3586).toNatClampNeg vg17 := og20.2.1
            have q24 : ig20 3586 = ig17 3586 + 1 := og20.2.2
            have b25 : ((-2147483648 : Int) ≤ (ig20 3209).toInt) ∧ ((ig20 3209).toInt ≤ 2147483647) := kd_bd (ig20 3209)
            have hJ26 := kG_i hGg20 3209 rfl (v := ((ig20 3209) + 1)) (kd_bd _)
            first | refine fo_goI mi_k29 fz29_104_10_120 [.int x1, .ref 55, .int x1, .ref 55] (ku ig20 3209 ((ig20 3209) + 1)) (by rfl) ?_ | refine ft_go mi_k29 10 120 [(3, .int l3_7), (2, .int ((a 51).getD x1.toNatClampNeg 0)), (0, .ref 50), (1, .int x1)] [.int x1, .ref 55, .int x1, .ref 55] (ku ig20 3209 ((ig20 3209) + 1)) ag20 qg20 rg20 (by rfl) ?_
            refine ko_iald3 mi_k29.1 (n := 8) (c := 8) (ax := (0, 0, 0, 0, 0)) (mi_k29.2 _ _ (by rfl)) (by rfl) (ksG55 _ _ _ _) (hJ26.I.2.1 55) rfl (ow4 z5.1) (ow5 fi_3200.2 z5.2) ?_
            have b27 : ((-2147483648 : Int) ≤ ((ag20 55).getD x1.toNatClampNeg 0).toInt) ∧ (((ag20 55).getD x1.toNatClampNeg 0).toInt ≤ 2147483647) := kd_bd ((ag20 55).getD x1.toNatClampNeg 0)
            refine fo_goS mi_k29 fz29_121_2_123 [.int (((ag20 55).getD x1.toNatClampNeg 0) + 1), .int x1, .ref 55] rfl ?_
            refine ko_iast3 mi_k29.1 (n := 8) (c := 8) (ax := (0, 0, 0, 0, 0)) (mi_k29.2 _ _ (by rfl)) (by rfl) (ksG55 _ _ _ _) (ksA55 _ _ _ _) (hJ26.I.2.1 55) rfl (ow4 z5.1) (ow5 fi_3200.2 z5.2) ?_
            intro a28 ea28 fa28
            have hJ28 := kG_a3 hJ26 55 rfl ea28 fa28 (kd_bd _)
            refine fo_goS mi_k29 fz29_124_4_130 [.int 0, .ref 63, .int 0, .ref 63] rfl ?_
            refine ko_iald3 mi_k29.1 (n := 5) (c := 5) (ax := (0, 0, 0, 0, 0)) (mi_k29.2 _ _ (by rfl)) (by rfl) (ksG63 _ _ _ _) (hJ28.I.2.1 63) rfl (ow9 kow0) (ow74 kow0) ?_
            have b29 : ((-2147483648 : Int) ≤ ((a28 63).getD (0 : Int32).toNatClampNeg 0).toInt) ∧ (((a28 63).getD (0 : Int32).toNatClampNeg 0).toInt ≤ 2147483647) := kd_bd ((a28 63).getD (0 : Int32).toNatClampNeg 0)
            refine fo_goS mi_k29 fz29_131_2_133 [.int (((a28 63).getD (0 : Int32).toNatClampNeg 0) + 1), .int 0, .ref 63] rfl ?_
            refine ko_iast3 mi_k29.1 (n := 5) (c := 5) (ax := (0, 0, 0, 0, 0)) (mi_k29.2 _ _ (by rfl)) (by rfl) (ksG63 _ _ _ _) (ksA63 _ _ _ _) (hJ28.I.2.1 63) rfl (ow9 kow0) (ow74 kow0) ?_
            intro a30 ea30 fa30
            have hJ30 := kG_a3 hJ28 63 rfl ea30 fa30 (kd_bd _)
            refine fo_goS mi_k29 fz29_134_4_140 [.int 1, .ref 63, .int 1, .ref 63] rfl ?_
            refine ko_iald3 mi_k29.1 (n := 5) (c := 5) (ax := (0, 0, 0, 0, 0)) (mi_k29.2 _ _ (by rfl)) (by rfl) (ksG63 _ _ _ _) (hJ30.I.2.1 63) rfl (ow11 kow1) (ow75 kow1) ?_
            have b31 : ((-2147483648 : Int) ≤ ((a30 63).getD (1 : Int32).toNatClampNeg 0).toInt) ∧ (((a30 63).getD (1 : Int32).toNatClampNeg 0).toInt ≤ 2147483647) := kd_bd ((a30 63).getD (1 : Int32).toNatClampNeg 0)
            have b32 : ((-2147483648 : Int) ≤ (ig20 3215).toInt) ∧ ((ig20 3215).toInt ≤ 2147483647) := kd_bd (ig20 3215)
            refine fo_goS mi_k29 fz29_141_3_146 [.int (((a30 63).getD (1 : Int32).toNatClampNeg 0) + (ig20 3215)), .int 1, .ref 63] rfl ?_
            refine ko_iast3 mi_k29.1 (n := 5) (c := 5) (ax := (0, 0, 0, 0, 0)) (mi_k29.2 _ _ (by rfl)) (by rfl) (ksG63 _ _ _ _) (ksA63 _ _ _ _) (hJ30.I.2.1 63) rfl (ow11 kow1) (ow75 kow1) ?_
            intro a33 ea33 fa33
            have hJ33 := kG_a3 hJ30 63 rfl ea33 fa33 (kd_bd _)
            refine fo_goS mi_k29 fz29_147_2_151 [.int (ig20 3215)] rfl ?_
            exact ft_ret mi_k29 (by rfl) (hP (ig20 3215) _ _ _ _ hJ33 ⟨trivial, ⟨(fun _ => (show ig20 3586 = (cPaid (i 3200) (i 3206) x1 5 (cT0 50 i a)).1 + 1 from (by first | rfl | (simp only [q24, (show ig17 3586 = i7 3586 from kg17.fi 3586 rfl), E10_0, er11, el12, el13, el14, el15, el16, sMn, sMx]; done) | (simp only [q24, (show ig17 3586 = i7 3586 from kg17.fi 3586 rfl), E10_0, er11, el12, el13, el14, el15, el16, sMn, sMx]; rfl)))), (fun _ => (show a33 57 = (cPaid (i 3200) (i 3206) x1 5 (cT0 50 i a)).2.1.set (cPaid (i 3200) (i 3206) x1 5 (cT0 50 i a)).1.toNatClampNeg x1 from (by first | rfl | (simp only [fa33 57 (by decide), fa30 57 (by decide), fa28 57 (by decide), q22, kg17.fa 57 rfl, (show ig17 3586 = i7 3586 from kg17.fi 3586 rfl), E10_0, E10_1, er11, el12, el13, el14, el15, el16, sMn, sMx]; done) | (simp only [fa33 57 (by decide), fa30 57 (by decide), fa28 57 (by decide), q22, kg17.fa 57 rfl, (show ig17 3586 = i7 3586 from kg17.fi 3586 rfl), E10_0, E10_1, er11, el12, el13, el14, el15, el16, sMn, sMx]; rfl)))), (fun _ => (show a33 58 = (cPaid (i 3200) (i 3206) x1 5 (cT0 50 i a)).2.2.1.set (cPaid (i 3200) (i 3206) x1 5 (cT0 50 i a)).1.toNatClampNeg (cBuyV (i (64 * r 1)) (a (r 1 + 1)) (a (r 1 + 2)) (a (r 1 + 3)) (i (64 * r 1 + 3)) ((a 52).getD x1.toNatClampNeg 0) ((a 51).getD x1.toNatClampNeg 0) ((a 53).getD x1.toNatClampNeg 0) (i 3209) ((a 55).getD x1.toNatClampNeg 0) (i 3208)) from (by first | rfl | (simp only [fa33 58 (by decide), fa30 58 (by decide), fa28 58 (by decide), q23, kg17.fa 58 rfl, (show ig17 3586 = i7 3586 from kg17.fi 3586 rfl), q18, hL7.fa 52 rfl, hL7.fa 53 rfl, (show i7 3209 = i 3209 from hL7.fi 3209 rfl), hL7.fa 55 rfl, (show i7 3208 = i 3208 from hL7.fi 3208 rfl), E10_0, E10_2, er11, el12, el13, el14, el15, el16, sMn, sMx]; done) | (simp only [fa33 58 (by decide), fa30 58 (by decide), fa28 58 (by decide), q23, kg17.fa 58 rfl, (show ig17 3586 = i7 3586 from kg17.fi 3586 rfl), q18, hL7.fa 52 rfl, hL7.fa 53 rfl, (show i7 3209 = i 3209 from hL7.fi 3209 rfl), hL7.fa 55 rfl, (show i7 3208 = i 3208 from hL7.fi 3208 rfl), E10_0, E10_2, er11, el12, el13, el14, el15, el16, sMn, sMx]; rfl)))), (fun _ => (show a33 51 = (cPaid (i 3200) (i 3206) x1 5 (cT0 50 i a)).2.2.2.1 from (by first | rfl | (simp only [fa33 51 (by decide), fa30 51 (by decide), fa28 51 (by decide), kg20.fa 51 rfl, kg17.fa 51 rfl, E10_3, er11, el12, el13, el14, el15, el16, sMn, sMx]; done) | (simp only [fa33 51 (by decide), fa30 51 (by decide), fa28 51 (by decide), kg20.fa 51 rfl, kg17.fa 51 rfl, E10_3, er11, el12, el13, el14, el15, el16, sMn, sMx]; rfl)))), (fun _ => (show ig20 3214 = (cPaid (i 3200) (i 3206) x1 5 (cT0 50 i a)).2.2.2.2.1 from (by first | rfl | (simp only [(show ig20 3214 = ig17 3214 from kg20.fi 3214 rfl), (show ig17 3214 = i7 3214 from kg17.fi 3214 rfl), E10_4, er11, el12, el13, el14, el15, el16, sMn, sMx]; done) | (simp only [(show ig20 3214 = ig17 3214 from kg20.fi 3214 rfl), (show ig17 3214 = i7 3214 from kg17.fi 3214 rfl), E10_4, er11, el12, el13, el14, el15, el16, sMn, sMx]; rfl)))), (fun _ => (show ig20 3215 = (cPaid (i 3200) (i 3206) x1 5 (cT0 50 i a)).2.2.2.2.2.1 from (by first | rfl | (simp only [(show ig20 3215 = ig17 3215 from kg20.fi 3215 rfl), (show ig17 3215 = i7 3215 from kg17.fi 3215 rfl), E10_5, er11, el12, el13, el14, el15, el16, sMn, sMx]; done) | (simp only [(show ig20 3215 = ig17 3215 from kg20.fi 3215 rfl), (show ig17 3215 = i7 3215 from kg17.fi 3215 rfl), E10_5, er11, el12, el13, el14, el15, el16, sMn, sMx]; rfl)))), (fun _ => (show ig20 3216 = (cBuyV (i (64 * r 1)) (a (r 1 + 1)) (a (r 1 + 2)) (a (r 1 + 3)) (i (64 * r 1 + 3)) ((a 52).getD x1.toNatClampNeg 0) ((a 51).getD x1.toNatClampNeg 0) ((a 53).getD x1.toNatClampNeg 0) (i 3209) ((a 55).getD x1.toNatClampNeg 0) (i 3208)) from (by first | rfl | (simp only [(show ig20 3216 = vg17 from kg20.fi 3216 rfl), q18, hL7.fa 52 rfl, hL7.fa 53 rfl, (show i7 3209 = i 3209 from hL7.fi 3209 rfl), hL7.fa 55 rfl, (show i7 3208 = i 3208 from hL7.fi 3208 rfl), er11, el12, el13, el14, el15, el16, sMn, sMx]; done) | (simp only [(show ig20 3216 = vg17 from kg20.fi 3216 rfl), q18, hL7.fa 52 rfl, hL7.fa 53 rfl, (show i7 3209 = i 3209 from hL7.fi 3209 rfl), hL7.fa 55 rfl, (show i7 3208 = i 3208 from hL7.fi 3208 rfl), er11, el12, el13, el14, el15, el16, sMn, sMx]; rfl)))), (fun _ => (show ((ig20 3209) + 1) = i 3209 + 1 from (by first | rfl | (simp only [(show ig20 3209 = ig17 3209 from kg20.fi 3209 rfl), (show ig17 3209 = i7 3209 from kg17.fi 3209 rfl), (show i7 3209 = i 3209 from hL7.fi 3209 rfl), er11, el12, el13, el14, el15, el16, sMn, sMx]; done) | (simp only [(show ig20 3209 = ig17 3209 from kg20.fi 3209 rfl), (show ig17 3209 = i7 3209 from kg17.fi 3209 rfl), (show i7 3209 = i 3209 from hL7.fi 3209 rfl), er11, el12, el13, el14, el15, el16, sMn, sMx]; rfl)))), (fun _ => (show a33 55 = (a 55).set x1.toNatClampNeg ((a 55).getD x1.toNatClampNeg 0 + 1) from (by first | rfl | (simp only [fa33 55 (by decide), fa30 55 (by decide), ea28, kg20.fa 55 rfl, kg17.fa 55 rfl, hL7.fa 55 rfl, er11, el12, el13, el14, el15, el16, sMn, sMx]; done) | (simp only [fa33 55 (by decide), fa30 55 (by decide), ea28, kg20.fa 55 rfl, kg17.fa 55 rfl, hL7.fa 55 rfl, er11, el12, el13, el14, el15, el16, sMn, sMx]; rfl)))), (fun _ => (show a33 63 = ((cPaid (i 3200) (i 3206) x1 5 (cT0 50 i a)).2.2.2.2.2.2.1.set (0 : Int32).toNatClampNeg ((cPaid (i 3200) (i 3206) x1 5 (cT0 50 i a)).2.2.2.2.2.2.1.getD (0 : Int32).toNatClampNeg 0 + 1)).set (1 : Int32).toNatClampNeg (((cPaid (i 3200) (i 3206) x1 5 (cT0 50 i a)).2.2.2.2.2.2.1.set (0 : Int32).toNatClampNeg ((cPaid (i 3200) (i 3206) x1 5 (cT0 50 i a)).2.2.2.2.2.2.1.getD (0 : Int32).toNatClampNeg 0 + 1)).getD (1 : Int32).toNatClampNeg 0 + (cPaid (i 3200) (i 3206) x1 5 (cT0 50 i a)).2.2.2.2.2.1) from (by first | rfl | (simp only [ea33, ea30, (show ig20 3215 = ig17 3215 from kg20.fi 3215 rfl), (show ig17 3215 = i7 3215 from kg17.fi 3215 rfl), E10_5, fa28 63 (by decide), kg20.fa 63 rfl, kg17.fa 63 rfl, E10_6, er11, el12, el13, el14, el15, el16, sMn, sMx]; done) | (simp only [ea33, ea30, (show ig20 3215 = ig17 3215 from kg20.fi 3215 rfl), (show ig17 3215 = i7 3215 from kg17.fi 3215 rfl), E10_5, fa28 63 (by decide), kg20.fa 63 rfl, kg17.fa 63 rfl, E10_6, er11, el12, el13, el14, el15, el16, sMn, sMx]; rfl)))), (fun _ => (show (ig20 3215) = (cPaid (i 3200) (i 3206) x1 5 (cT0 50 i a)).2.2.2.2.2.1 from (by first | rfl | (simp only [(show ig20 3215 = ig17 3215 from kg20.fi 3215 rfl), (show ig17 3215 = i7 3215 from kg17.fi 3215 rfl), E10_5, er11, el12, el13, el14, el15, el16, sMn, sMx]; done) | (simp only [(show ig20 3215 = ig17 3215 from kg20.fi 3215 rfl), (show ig17 3215 = i7 3215 from kg17.fi 3215 rfl), E10_5, er11, el12, el13, el14, el15, el16, sMn, sMx]; rfl)))), (fun _ => (show a33 65 = (cPaid (i 3200) (i 3206) x1 5 (cT0 50 i a)).2.2.2.2.2.2.2 0 from (by first | rfl | (simp only [fa33 65 (by decide), fa30 65 (by decide), fa28 65 (by decide), kg20.fa 65 rfl, kg17.fa 65 rfl, E10_r0, er11, el12, el13, el14, el15, el16, sMn, sMx]; done) | (simp only [fa33 65 (by decide), fa30 65 (by decide), fa28 65 (by decide), kg20.fa 65 rfl, kg17.fa 65 rfl, E10_r0, er11, el12, el13, el14, el15, el16, sMn, sMx]; rfl)))), (fun _ => (show a33 66 = (cPaid (i 3200) (i 3206) x1 5 (cT0 50 i a)).2.2.2.2.2.2.2 1 from (by first | rfl | (simp only [fa33 66 (by decide), fa30 66 (by decide), fa28 66 (by decide), kg20.fa 66 rfl, kg17.fa 66 rfl, E10_r1, er11, el12, el13, el14, el15, el16, sMn, sMx]; done) | (simp only [fa33 66 (by decide), fa30 66 (by decide), fa28 66 (by decide), kg20.fa 66 rfl, kg17.fa 66 rfl, E10_r1, er11, el12, el13, el14, el15, el16, sMn, sMx]; rfl)))), (fun _ => (show a33 67 = (cPaid (i 3200) (i 3206) x1 5 (cT0 50 i a)).2.2.2.2.2.2.2 2 from (by first | rfl | (simp only [fa33 67 (by decide), fa30 67 (by decide), fa28 67 (by decide), kg20.fa 67 rfl, kg17.fa 67 rfl, E10_r2, er11, el12, el13, el14, el15, el16, sMn, sMx]; done) | (simp only [fa33 67 (by decide), fa30 67 (by decide), fa28 67 (by decide), kg20.fa 67 rfl, kg17.fa 67 rfl, E10_r2, er11, el12, el13, el14, el15, el16, sMn, sMx]; rfl)))), (fun _ => (show a33 68 = (cPaid (i 3200) (i 3206) x1 5 (cT0 50 i a)).2.2.2.2.2.2.2 3 from (by first | rfl | (simp only [fa33 68 (by decide), fa30 68 (by decide), fa28 68 (by decide), kg20.fa 68 rfl, kg17.fa 68 rfl, E10_r3, er11, el12, el13, el14, el15, el16, sMn, sMx]; done) | (simp only [fa33 68 (by decide), fa30 68 (by decide), fa28 68 (by decide), kg20.fa 68 rfl, kg17.fa 68 rfl, E10_r3, er11, el12, el13, el14, el15, el16, sMn, sMx]; rfl)))), (fun _ => (show a33 69 = (cPaid (i 3200) (i 3206) x1 5 (cT0 50 i a)).2.2.2.2.2.2.2 4 from (by first | rfl | (simp only [fa33 69 (by decide), fa30 69 (by decide), fa28 69 (by decide), kg20.fa 69 rfl, kg17.fa 69 rfl, E10_r4, er11, el12, el13, el14, el15, el16, sMn, sMx]; done) | (simp only [fa33 69 (by decide), fa30 69 (by decide), fa28 69 (by decide), kg20.fa 69 rfl, kg17.fa 69 rfl, E10_r4, er11, el12, el13, el14, el15, el16, sMn, sMx]; rfl)))), (fun _ => (show a33 70 = (cPaid (i 3200) (i 3206) x1 5 (cT0 50 i a)).2.2.2.2.2.2.2 5 from (by first | rfl | (simp only [fa33 70 (by decide), fa30 70 (by decide), fa28 70 (by decide), kg20.fa 70 rfl, kg17.fa 70 rfl, E10_r5, er11, el12, el13, el14, el15, el16, sMn, sMx]; done) | (simp only [fa33 70 (by decide), fa30 70 (by decide), fa28 70 (by decide), kg20.fa 70 rfl, kg17.fa 70 rfl, E10_r5, er11, el12, el13, el14, el15, el16, sMn, sMx]; rfl)))), (fun _ => (show a33 71 = (cPaid (i 3200) (i 3206) x1 5 (cT0 50 i a)).2.2.2.2.2.2.2 6 from (by first | rfl | (simp only [fa33 71 (by decide), fa30 71 (by decide), fa28 71 (by decide), kg20.fa 71 rfl, kg17.fa 71 rfl, E10_r6, er11, el12, el13, el14, el15, el16, sMn, sMx]; done) | (simp only [fa33 71 (by decide), fa30 71 (by decide), fa28 71 (by decide), kg20.fa 71 rfl, kg17.fa 71 rfl, E10_r6, er11, el12, el13, el14, el15, el16, sMn, sMx]; rfl)))), (fun _ => (show a33 72 = (cPaid (i 3200) (i 3206) x1 5 (cT0 50 i a)).2.2.2.2.2.2.2 7 from (by first | rfl | (simp only [fa33 72 (by decide), fa30 72 (by decide), fa28 72 (by decide), kg20.fa 72 rfl, kg17.fa 72 rfl, E10_r7, er11, el12, el13, el14, el15, el16, sMn, sMx]; done) | (simp only [fa33 72 (by decide), fa30 72 (by decide), fa28 72 (by decide), kg20.fa 72 rfl, kg17.fa 72 rfl, E10_r7, er11, el12, el13, el14, el15, el16, sMn, sMx]; rfl)))), (fun h => absurd (ow78 c6 z5.1 z5.2 kow0) h), (fun h => absurd (ow78 c6 z5.1 z5.2 kow0) h), (fun h => absurd (ow78 c6 z5.1 z5.2 kow0) h), (fun h => absurd (ow78 c6 z5.1 z5.2 kow0) h), (fun h => absurd (ow78 c6 z5.1 z5.2 kow0) h), (fun h => absurd (ow78 c6 z5.1 z5.2 kow0) h), (fun h => absurd (ow78 c6 z5.1 z5.2 kow0) h), (fun h => absurd (ow78 c6 z5.1 z5.2 kow0) h), (fun h => absurd (ow78 c6 z5.1 z5.2 kow0) h), (fun h => absurd (ow78 c6 z5.1 z5.2 kow0) h), (fun h => absurd (ow78 c6 z5.1 z5.2 kow0) h), (fun h => absurd (ow78 c6 z5.1 z5.2 kow0) h), (fun h => absurd (ow78 c6 z5.1 z5.2 kow0) h), (fun h => absurd (ow78 c6 z5.1 z5.2 kow0) h), (fun h => absurd (ow78 c6 z5.1 z5.2 kow0) h), (fun h => absurd (ow78 c6 z5.1 z5.2 kow0) h), (fun h => absurd (ow78 c6 z5.1 z5.2 kow0) h), (fun h => absurd (ow78 c6 z5.1 z5.2 kow0) h), (fun h => absurd (ow78 c6 z5.1 z5.2 kow0) h)⟩⟩)
          ·
            have c34 : l3_7.toInt < (5 : Int32).toInt := kd_leF c; clear c
            have efi7_3206 : (i7 3206).toInt = (i 3206).toInt := hL7.ti 3206 rfl
            refine fo_goS mi_k29 fz29_57_5_68 [.int (i7 3206), .int (i7 3586)] rfl ?_
            refine ft_ifS mi_k29 (decide ((i7 3586) < (i7 3206))) 82 71 [] (by rfl) (fun c => ?_) (fun c => ?_)
            ·
              have c35 : (i7 3586).toInt < (i7 3206).toInt := kd_lt c; clear c
              have hG36 := kG_call hJ3 hL7 (by decide +kernel)
              have E37 : cT 50 i7 a7 = (cPaid (i 3200) (i 3206) x1 5 (cT0 50 i a)) := cP_done O7_0 (ow39 c35 efi7_3206)
              have E37_0 : i7 3586 = (cPaid (i 3200) (i 3206) x1 5 (cT0 50 i a)).1 := (cT_1 E37).1
              have E37_1 : a7 57 = (cPaid (i 3200) (i 3206) x1 5 (cT0 50 i a)).2.1 := (cT_1 E37).2.1
              have E37_2 : a7 58 = (cPaid (i 3200) (i 3206) x1 5 (cT0 50 i a)).2.2.1 := (cT_1 E37).2.2.1
              have E37_3 : a7 51 = (cPaid (i 3200) (i 3206) x1 5 (cT0 50 i a)).2.2.2.1 := (cT_1 E37).2.2.2.1
              have E37_4 : i7 3214 = (cPaid (i 3200) (i 3206) x1 5 (cT0 50 i a)).2.2.2.2.1 := (cT_1 E37).2.2.2.2.1
              have E37_5 : i7 3215 = (cPaid (i 3200) (i 3206) x1 5 (cT0 50 i a)).2.2.2.2.2.1 := (cT_1 E37).2.2.2.2.2.1
              have E37_6 : a7 63 = (cPaid (i 3200) (i 3206) x1 5 (cT0 50 i a)).2.2.2.2.2.2.1 := (cT_1 E37).2.2.2.2.2.2.1
              have E37_r0 : a7 65 = (cPaid (i 3200) (i 3206) x1 5 (cT0 50 i a)).2.2.2.2.2.2.2 0 := (cT_1 E37).2.2.2.2.2.2.2 0 (by decide)
              have E37_r1 : a7 66 = (cPaid (i 3200) (i 3206) x1 5 (cT0 50 i a)).2.2.2.2.2.2.2 1 := (cT_1 E37).2.2.2.2.2.2.2 1 (by decide)
              have E37_r2 : a7 67 = (cPaid (i 3200) (i 3206) x1 5 (cT0 50 i a)).2.2.2.2.2.2.2 2 := (cT_1 E37).2.2.2.2.2.2.2 2 (by decide)
              have E37_r3 : a7 68 = (cPaid (i 3200) (i 3206) x1 5 (cT0 50 i a)).2.2.2.2.2.2.2 3 := (cT_1 E37).2.2.2.2.2.2.2 3 (by decide)
              have E37_r4 : a7 69 = (cPaid (i 3200) (i 3206) x1 5 (cT0 50 i a)).2.2.2.2.2.2.2 4 := (cT_1 E37).2.2.2.2.2.2.2 4 (by decide)
              have E37_r5 : a7 70 = (cPaid (i 3200) (i 3206) x1 5 (cT0 50 i a)).2.2.2.2.2.2.2 5 := (cT_1 E37).2.2.2.2.2.2.2 5 (by decide)
              have E37_r6 : a7 71 = (cPaid (i 3200) (i 3206) x1 5 (cT0 50 i a)).2.2.2.2.2.2.2 6 := (cT_1 E37).2.2.2.2.2.2.2 6 (by decide)
              have E37_r7 : a7 72 = (cPaid (i 3200) (i 3206) x1 5 (cT0 50 i a)).2.2.2.2.2.2.2 7 := (cT_1 E37).2.2.2.2.2.2.2 7 (by decide)
              have er38 : r7 1 = r 1 := hL7.fr 1 rfl
              have el39 : a7 (r 1 + 1) = a (r 1 + 1) := by rcases hr.2 with hz | hz | hz <;> rw [hz] <;> exact hL7.fa _ rfl
              have el40 : a7 (r 1 + 2) = a (r 1 + 2) := by rcases hr.2 with hz | hz | hz <;> rw [hz] <;> exact hL7.fa _ rfl
              have el41 : a7 (r 1 + 3) = a (r 1 + 3) := by rcases hr.2 with hz | hz | hz <;> rw [hz] <;> exact hL7.fa _ rfl
              have el42 : i7 (64 * r 1) = i (64 * r 1) := by rcases hr.2 with hz | hz | hz <;> rw [hz] <;> exact hL7.fi _ rfl
              have el43 : i7 (64 * r 1 + 3) = i (64 * r 1 + 3) := by rcases hr.2 with hz | hz | hz <;> rw [hz] <;> exact hL7.fi _ rfl
              refine fo_goS mi_k29 fz29_82_4_86 [.int ((a 51).getD x1.toNatClampNeg 0), .int x1, .ref 50, .ref 50] rfl ?_
              refine ko_callI mi_k29.1 (pc := 86) (ls := [(3, .int l3_7), (2, .int ((a 51).getD x1.toNatClampNeg 0)), (0, .ref 50), (1, .int x1)]) (st := [.int ((a 51).getD x1.toNatClampNeg 0), .int x1, .ref 50, .ref 50]) (h := ks i7 a7 q7 r7) (i := (.invokevirtual 100, 3, 31, 0, 9, 0, 223)) (mi_k29.2 _ _ (by rfl)) (ft_invS mi_pq31 (by rfl)) (cy := mi_c31) mi_pq31 rfl (ke31_50 hG36.I hG36.R x1 ((a 51).getD x1.toNatClampNeg 0) (ow67 fi_3200.2 z5.1 z5.2)) (by decide) ?_
              intro vg44 ig44 ag44 qg44 rg44 kg44 hg44
              have hGg44 := kG_call hG36 kg44 (by decide +kernel)
              obtain ⟨hg44, og44⟩ := hg44
              have q45 : vg44 = cBuyV (i7 (64 * r7 1)) (a7 (r7 1 + 1)) (a7 (r7 1 + 2)) (a7 (r7 1 + 3)) (i7 (64 * r7 1 + 3)) ((a7 52).getD x1.toNatClampNeg 0) ((a 51).getD x1.toNatClampNeg 0) ((a7 53).getD x1.toNatClampNeg 0) (i7 3209) ((a7 55).getD x1.toNatClampNeg 0) (i7 3208) := og44
              have hJ46 := kG_i hGg44 3216 rfl (v := vg44) (kd_bd _)
              first | refine fo_goI mi_k29 fz29_89_6_101 [.int vg44, .int x1, .ref 56] (ku ig44 3216 vg44) (by rfl) ?_ | refine ft_go mi_k29 6 101 [(3, .int l3_7), (2, .int ((a 51).getD x1.toNatClampNeg 0)), (0, .ref 50), (1, .int x1)] [.int vg44, .int x1, .ref 56] (ku ig44 3216 vg44) ag44 qg44 rg44 (by rfl) ?_
              have efig44_3586 : (ig44 3586).toInt = (i7 3586).toInt := kg44.ti 3586 rfl
              refine ko_callN mi_k29.1 (pc := 101) (ls := [(3, .int l3_7), (2, .int ((a 51).getD x1.toNatClampNeg 0)), (0, .ref 50), (1, .int x1)]) (st := [.int vg44, .int x1, .ref 56]) (h := ks (ku ig44 3216 vg44) ag44 qg44 rg44) (i := (.invokevirtual 104, 3, 1, 0, 9, 0, 228)) (mi_k29.2 _ _ (by rfl)) (ft_invS mi_pq1 (by rfl)) (cy := mi_c1) mi_pq1 rfl (kf1_56 hJ46.I hJ46.R x1 vg44 (ow79 c35 efi7_3206 efig44_3586 hp0.2)) (by decide) ?_
              intro ig47 ag47 qg47 rg47 kg47 hg47
              have hGg47 := kG_call hJ46 kg47 (by decide +kernel)
              obtain ⟨hg47, og47⟩ := hg47
              have q49 : ag47 57 = (ag44 57).set (ig44 3586).toNatClampNeg x1 := og47.1
              have q50 : ag47 58 = (ag44 58).set (ig44 3586).toNatClampNeg vg44 := og47.2.1
              have q51 : ig47 3586 = ig44 3586 + 1 := og47.2.2
              have b52 : ((-2147483648 : Int) ≤ (ig47 3209).toInt) ∧ ((ig47 3209).toInt ≤ 2147483647) := kd_bd (ig47 3209)
              have hJ53 := kG_i hGg47 3209 rfl (v := ((ig47 3209) + 1)) (kd_bd _)
              first | refine fo_goI mi_k29 fz29_104_10_120 [.int x1, .ref 55, .int x1, .ref 55] (ku ig47 3209 ((ig47 3209) + 1)) (by rfl) ?_ | refine ft_go mi_k29 10 120 [(3, .int l3_7), (2, .int ((a 51).getD x1.toNatClampNeg 0)), (0, .ref 50), (1, .int x1)] [.int x1, .ref 55, .int x1, .ref 55] (ku ig47 3209 ((ig47 3209) + 1)) ag47 qg47 rg47 (by rfl) ?_
              refine ko_iald3 mi_k29.1 (n := 8) (c := 8) (ax := (0, 0, 0, 0, 0)) (mi_k29.2 _ _ (by rfl)) (by rfl) (ksG55 _ _ _ _) (hJ53.I.2.1 55) rfl (ow4 z5.1) (ow5 fi_3200.2 z5.2) ?_
              have b54 : ((-2147483648 : Int) ≤ ((ag47 55).getD x1.toNatClampNeg 0).toInt) ∧ (((ag47 55).getD x1.toNatClampNeg 0).toInt ≤ 2147483647) := kd_bd ((ag47 55).getD x1.toNatClampNeg 0)
              refine fo_goS mi_k29 fz29_121_2_123 [.int (((ag47 55).getD x1.toNatClampNeg 0) + 1), .int x1, .ref 55] rfl ?_
              refine ko_iast3 mi_k29.1 (n := 8) (c := 8) (ax := (0, 0, 0, 0, 0)) (mi_k29.2 _ _ (by rfl)) (by rfl) (ksG55 _ _ _ _) (ksA55 _ _ _ _) (hJ53.I.2.1 55) rfl (ow4 z5.1) (ow5 fi_3200.2 z5.2) ?_
              intro a55 ea55 fa55
              have hJ55 := kG_a3 hJ53 55 rfl ea55 fa55 (kd_bd _)
              refine fo_goS mi_k29 fz29_124_4_130 [.int 0, .ref 63, .int 0, .ref 63] rfl ?_
              refine ko_iald3 mi_k29.1 (n := 5) (c := 5) (ax := (0, 0, 0, 0, 0)) (mi_k29.2 _ _ (by rfl)) (by rfl) (ksG63 _ _ _ _) (hJ55.I.2.1 63) rfl (ow9 kow0) (ow74 kow0) ?_
              have b56 : ((-2147483648 : Int) ≤ ((a55 63).getD (0 : Int32).toNatClampNeg 0).toInt) ∧ (((a55 63).getD (0 : Int32).toNatClampNeg 0).toInt ≤ 2147483647) := kd_bd ((a55 63).getD (0 : Int32).toNatClampNeg 0)
              refine fo_goS mi_k29 fz29_131_2_133 [.int (((a55 63).getD (0 : Int32).toNatClampNeg 0) + 1), .int 0, .ref 63] rfl ?_
              refine ko_iast3 mi_k29.1 (n := 5) (c := 5) (ax := (0, 0, 0, 0, 0)) (mi_k29.2 _ _ (by rfl)) (by rfl) (ksG63 _ _ _ _) (ksA63 _ _ _ _) (hJ55.I.2.1 63) rfl (ow9 kow0) (ow74 kow0) ?_
              intro a57 ea57 fa57
              have hJ57 := kG_a3 hJ55 63 rfl ea57 fa57 (kd_bd _)
              refine fo_goS mi_k29 fz29_134_4_140 [.int 1, .ref 63, .int 1, .ref 63] rfl ?_
              refine ko_iald3 mi_k29.1 (n := 5) (c := 5) (ax := (0, 0, 0, 0, 0)) (mi_k29.2 _ _ (by rfl)) (by rfl) (ksG63 _ _ _ _) (hJ57.I.2.1 63) rfl (ow11 kow1) (ow75 kow1) ?_
              have b58 : ((-2147483648 : Int) ≤ ((a57 63).getD (1 : Int32).toNatClampNeg 0).toInt) ∧ (((a57 63).getD (1 : Int32).toNatClampNeg 0).toInt ≤ 2147483647) := kd_bd ((a57 63).getD (1 : Int32).toNatClampNeg 0)
              have b59 : ((-2147483648 : Int) ≤ (ig47 3215).toInt) ∧ ((ig47 3215).toInt ≤ 2147483647) := kd_bd (ig47 3215)
              refine fo_goS mi_k29 fz29_141_3_146 [.int (((a57 63).getD (1 : Int32).toNatClampNeg 0) + (ig47 3215)), .int 1, .ref 63] rfl ?_
              refine ko_iast3 mi_k29.1 (n := 5) (c := 5) (ax := (0, 0, 0, 0, 0)) (mi_k29.2 _ _ (by rfl)) (by rfl) (ksG63 _ _ _ _) (ksA63 _ _ _ _) (hJ57.I.2.1 63) rfl (ow11 kow1) (ow75 kow1) ?_
              intro a60 ea60 fa60
              have hJ60 := kG_a3 hJ57 63 rfl ea60 fa60 (kd_bd _)
              refine fo_goS mi_k29 fz29_147_2_151 [.int (ig47 3215)] rfl ?_
              exact ft_ret mi_k29 (by rfl) (hP (ig47 3215) _ _ _ _ hJ60 ⟨trivial, ⟨(fun _ => (show ig47 3586 = (cPaid (i 3200) (i 3206) x1 5 (cT0 50 i a)).1 + 1 from (by first | rfl | (simp only [q51, (show ig44 3586 = i7 3586 from kg44.fi 3586 rfl), E37_0, er38, el39, el40, el41, el42, el43, sMn, sMx]; done) | (simp only [q51, (show ig44 3586 = i7 3586 from kg44.fi 3586 rfl), E37_0, er38, el39, el40, el41, el42, el43, sMn, sMx]; rfl)))), (fun _ => (show a60 57 = (cPaid (i 3200) (i 3206) x1 5 (cT0 50 i a)).2.1.set (cPaid (i 3200) (i 3206) x1 5 (cT0 50 i a)).1.toNatClampNeg x1 from (by first | rfl | (simp only [fa60 57 (by decide), fa57 57 (by decide), fa55 57 (by decide), q49, kg44.fa 57 rfl, (show ig44 3586 = i7 3586 from kg44.fi 3586 rfl), E37_0, E37_1, er38, el39, el40, el41, el42, el43, sMn, sMx]; done) | (simp only [fa60 57 (by decide), fa57 57 (by decide), fa55 57 (by decide), q49, kg44.fa 57 rfl, (show ig44 3586 = i7 3586 from kg44.fi 3586 rfl), E37_0, E37_1, er38, el39, el40, el41, el42, el43, sMn, sMx]; rfl)))), (fun _ => (show a60 58 = (cPaid (i 3200) (i 3206) x1 5 (cT0 50 i a)).2.2.1.set (cPaid (i 3200) (i 3206) x1 5 (cT0 50 i a)).1.toNatClampNeg (cBuyV (i (64 * r 1)) (a (r 1 + 1)) (a (r 1 + 2)) (a (r 1 + 3)) (i (64 * r 1 + 3)) ((a 52).getD x1.toNatClampNeg 0) ((a 51).getD x1.toNatClampNeg 0) ((a 53).getD x1.toNatClampNeg 0) (i 3209) ((a 55).getD x1.toNatClampNeg 0) (i 3208)) from (by first | rfl | (simp only [fa60 58 (by decide), fa57 58 (by decide), fa55 58 (by decide), q50, kg44.fa 58 rfl, (show ig44 3586 = i7 3586 from kg44.fi 3586 rfl), q45, hL7.fa 52 rfl, hL7.fa 53 rfl, (show i7 3209 = i 3209 from hL7.fi 3209 rfl), hL7.fa 55 rfl, (show i7 3208 = i 3208 from hL7.fi 3208 rfl), E37_0, E37_2, er38, el39, el40, el41, el42, el43, sMn, sMx]; done) | (simp only [fa60 58 (by decide), fa57 58 (by decide), fa55 58 (by decide), q50, kg44.fa 58 rfl, (show ig44 3586 = i7 3586 from kg44.fi 3586 rfl), q45, hL7.fa 52 rfl, hL7.fa 53 rfl, (show i7 3209 = i 3209 from hL7.fi 3209 rfl), hL7.fa 55 rfl, (show i7 3208 = i 3208 from hL7.fi 3208 rfl), E37_0, E37_2, er38, el39, el40, el41, el42, el43, sMn, sMx]; rfl)))), (fun _ => (show a60 51 = (cPaid (i 3200) (i 3206) x1 5 (cT0 50 i a)).2.2.2.1 from (by first | rfl | (simp only [fa60 51 (by decide), fa57 51 (by decide), fa55 51 (by decide), kg47.fa 51 rfl, kg44.fa 51 rfl, E37_3, er38, el39, el40, el41, el42, el43, sMn, sMx]; done) | (simp only [fa60 51 (by decide), fa57 51 (by decide), fa55 51 (by decide), kg47.fa 51 rfl, kg44.fa 51 rfl, E37_3, er38, el39, el40, el41, el42, el43, sMn, sMx]; rfl)))), (fun _ => (show ig47 3214 = (cPaid (i 3200) (i 3206) x1 5 (cT0 50 i a)).2.2.2.2.1 from (by first | rfl | (simp only [(show ig47 3214 = ig44 3214 from kg47.fi 3214 rfl), (show ig44 3214 = i7 3214 from kg44.fi 3214 rfl), E37_4, er38, el39, el40, el41, el42, el43, sMn, sMx]; done) | (simp only [(show ig47 3214 = ig44 3214 from kg47.fi 3214 rfl), (show ig44 3214 = i7 3214 from kg44.fi 3214 rfl), E37_4, er38, el39, el40, el41, el42, el43, sMn, sMx]; rfl)))), (fun _ => (show ig47 3215 = (cPaid (i 3200) (i 3206) x1 5 (cT0 50 i a)).2.2.2.2.2.1 from (by first | rfl | (simp only [(show ig47 3215 = ig44 3215 from kg47.fi 3215 rfl), (show ig44 3215 = i7 3215 from kg44.fi 3215 rfl), E37_5, er38, el39, el40, el41, el42, el43, sMn, sMx]; done) | (simp only [(show ig47 3215 = ig44 3215 from kg47.fi 3215 rfl), (show ig44 3215 = i7 3215 from kg44.fi 3215 rfl), E37_5, er38, el39, el40, el41, el42, el43, sMn, sMx]; rfl)))), (fun _ => (show ig47 3216 = (cBuyV (i (64 * r 1)) (a (r 1 + 1)) (a (r 1 + 2)) (a (r 1 + 3)) (i (64 * r 1 + 3)) ((a 52).getD x1.toNatClampNeg 0) ((a 51).getD x1.toNatClampNeg 0) ((a 53).getD x1.toNatClampNeg 0) (i 3209) ((a 55).getD x1.toNatClampNeg 0) (i 3208)) from (by first | rfl | (simp only [(show ig47 3216 = vg44 from kg47.fi 3216 rfl), q45, hL7.fa 52 rfl, hL7.fa 53 rfl, (show i7 3209 = i 3209 from hL7.fi 3209 rfl), hL7.fa 55 rfl, (show i7 3208 = i 3208 from hL7.fi 3208 rfl), er38, el39, el40, el41, el42, el43, sMn, sMx]; done) | (simp only [(show ig47 3216 = vg44 from kg47.fi 3216 rfl), q45, hL7.fa 52 rfl, hL7.fa 53 rfl, (show i7 3209 = i 3209 from hL7.fi 3209 rfl), hL7.fa 55 rfl, (show i7 3208 = i 3208 from hL7.fi 3208 rfl), er38, el39, el40, el41, el42, el43, sMn, sMx]; rfl)))), (fun _ => (show ((ig47 3209) + 1) = i 3209 + 1 from (by first | rfl | (simp only [(show ig47 3209 = ig44 3209 from kg47.fi 3209 rfl), (show ig44 3209 = i7 3209 from kg44.fi 3209 rfl), (show i7 3209 = i 3209 from hL7.fi 3209 rfl), er38, el39, el40, el41, el42, el43, sMn, sMx]; done) | (simp only [(show ig47 3209 = ig44 3209 from kg47.fi 3209 rfl), (show ig44 3209 = i7 3209 from kg44.fi 3209 rfl), (show i7 3209 = i 3209 from hL7.fi 3209 rfl), er38, el39, el40, el41, el42, el43, sMn, sMx]; rfl)))), (fun _ => (show a60 55 = (a 55).set x1.toNatClampNeg ((a 55).getD x1.toNatClampNeg 0 + 1) from (by first | rfl | (simp only [fa60 55 (by decide), fa57 55 (by decide), ea55, kg47.fa 55 rfl, kg44.fa 55 rfl, hL7.fa 55 rfl, er38, el39, el40, el41, el42, el43, sMn, sMx]; done) | (simp only [fa60 55 (by decide), fa57 55 (by decide), ea55, kg47.fa 55 rfl, kg44.fa 55 rfl, hL7.fa 55 rfl, er38, el39, el40, el41, el42, el43, sMn, sMx]; rfl)))), (fun _ => (show a60 63 = ((cPaid (i 3200) (i 3206) x1 5 (cT0 50 i a)).2.2.2.2.2.2.1.set (0 : Int32).toNatClampNeg ((cPaid (i 3200) (i 3206) x1 5 (cT0 50 i a)).2.2.2.2.2.2.1.getD (0 : Int32).toNatClampNeg 0 + 1)).set (1 : Int32).toNatClampNeg (((cPaid (i 3200) (i 3206) x1 5 (cT0 50 i a)).2.2.2.2.2.2.1.set (0 : Int32).toNatClampNeg ((cPaid (i 3200) (i 3206) x1 5 (cT0 50 i a)).2.2.2.2.2.2.1.getD (0 : Int32).toNatClampNeg 0 + 1)).getD (1 : Int32).toNatClampNeg 0 + (cPaid (i 3200) (i 3206) x1 5 (cT0 50 i a)).2.2.2.2.2.1) from (by first | rfl | (simp only [ea60, ea57, (show ig47 3215 = ig44 3215 from kg47.fi 3215 rfl), (show ig44 3215 = i7 3215 from kg44.fi 3215 rfl), E37_5, fa55 63 (by decide), kg47.fa 63 rfl, kg44.fa 63 rfl, E37_6, er38, el39, el40, el41, el42, el43, sMn, sMx]; done) | (simp only [ea60, ea57, (show ig47 3215 = ig44 3215 from kg47.fi 3215 rfl), (show ig44 3215 = i7 3215 from kg44.fi 3215 rfl), E37_5, fa55 63 (by decide), kg47.fa 63 rfl, kg44.fa 63 rfl, E37_6, er38, el39, el40, el41, el42, el43, sMn, sMx]; rfl)))), (fun _ => (show (ig47 3215) = (cPaid (i 3200) (i 3206) x1 5 (cT0 50 i a)).2.2.2.2.2.1 from (by first | rfl | (simp only [(show ig47 3215 = ig44 3215 from kg47.fi 3215 rfl), (show ig44 3215 = i7 3215 from kg44.fi 3215 rfl), E37_5, er38, el39, el40, el41, el42, el43, sMn, sMx]; done) | (simp only [(show ig47 3215 = ig44 3215 from kg47.fi 3215 rfl), (show ig44 3215 = i7 3215 from kg44.fi 3215 rfl), E37_5, er38, el39, el40, el41, el42, el43, sMn, sMx]; rfl)))), (fun _ => (show a60 65 = (cPaid (i 3200) (i 3206) x1 5 (cT0 50 i a)).2.2.2.2.2.2.2 0 from (by first | rfl | (simp only [fa60 65 (by decide), fa57 65 (by decide), fa55 65 (by decide), kg47.fa 65 rfl, kg44.fa 65 rfl, E37_r0, er38, el39, el40, el41, el42, el43, sMn, sMx]; done) | (simp only [fa60 65 (by decide), fa57 65 (by decide), fa55 65 (by decide), kg47.fa 65 rfl, kg44.fa 65 rfl, E37_r0, er38, el39, el40, el41, el42, el43, sMn, sMx]; rfl)))), (fun _ => (show a60 66 = (cPaid (i 3200) (i 3206) x1 5 (cT0 50 i a)).2.2.2.2.2.2.2 1 from (by first | rfl | (simp only [fa60 66 (by decide), fa57 66 (by decide), fa55 66 (by decide), kg47.fa 66 rfl, kg44.fa 66 rfl, E37_r1, er38, el39, el40, el41, el42, el43, sMn, sMx]; done) | (simp only [fa60 66 (by decide), fa57 66 (by decide), fa55 66 (by decide), kg47.fa 66 rfl, kg44.fa 66 rfl, E37_r1, er38, el39, el40, el41, el42, el43, sMn, sMx]; rfl)))), (fun _ => (show a60 67 = (cPaid (i 3200) (i 3206) x1 5 (cT0 50 i a)).2.2.2.2.2.2.2 2 from (by first | rfl | (simp only [fa60 67 (by decide), fa57 67 (by decide), fa55 67 (by decide), kg47.fa 67 rfl, kg44.fa 67 rfl, E37_r2, er38, el39, el40, el41, el42, el43, sMn, sMx]; done) | (simp only [fa60 67 (by decide), fa57 67 (by decide), fa55 67 (by decide), kg47.fa 67 rfl, kg44.fa 67 rfl, E37_r2, er38, el39, el40, el41, el42, el43, sMn, sMx]; rfl)))), (fun _ => (show a60 68 = (cPaid (i 3200) (i 3206) x1 5 (cT0 50 i a)).2.2.2.2.2.2.2 3 from (by first | rfl | (simp only [fa60 68 (by decide), fa57 68 (by decide), fa55 68 (by decide), kg47.fa 68 rfl, kg44.fa 68 rfl, E37_r3, er38, el39, el40, el41, el42, el43, sMn, sMx]; done) | (simp only [fa60 68 (by decide), fa57 68 (by decide), fa55 68 (by decide), kg47.fa 68 rfl, kg44.fa 68 rfl, E37_r3, er38, el39, el40, el41, el42, el43, sMn, sMx]; rfl)))), (fun _ => (show a60 69 = (cPaid (i 3200) (i 3206) x1 5 (cT0 50 i a)).2.2.2.2.2.2.2 4 from (by first | rfl | (simp only [fa60 69 (by decide), fa57 69 (by decide), fa55 69 (by decide), kg47.fa 69 rfl, kg44.fa 69 rfl, E37_r4, er38, el39, el40, el41, el42, el43, sMn, sMx]; done) | (simp only [fa60 69 (by decide), fa57 69 (by decide), fa55 69 (by decide), kg47.fa 69 rfl, kg44.fa 69 rfl, E37_r4, er38, el39, el40, el41, el42, el43, sMn, sMx]; rfl)))), (fun _ => (show a60 70 = (cPaid (i 3200) (i 3206) x1 5 (cT0 50 i a)).2.2.2.2.2.2.2 5 from (by first | rfl | (simp only [fa60 70 (by decide), fa57 70 (by decide), fa55 70 (by decide), kg47.fa 70 rfl, kg44.fa 70 rfl, E37_r5, er38, el39, el40, el41, el42, el43, sMn, sMx]; done) | (simp only [fa60 70 (by decide), fa57 70 (by decide), fa55 70 (by decide), kg47.fa 70 rfl, kg44.fa 70 rfl, E37_r5, er38, el39, el40, el41, el42, el43, sMn, sMx]; rfl)))), (fun _ => (show a60 71 = (cPaid (i 3200) (i 3206) x1 5 (cT0 50 i a)).2.2.2.2.2.2.2 6 from (by first | rfl | (simp only [fa60 71 (by decide), fa57 71 (by decide), fa55 71 (by decide), kg47.fa 71 rfl, kg44.fa 71 rfl, E37_r6, er38, el39, el40, el41, el42, el43, sMn, sMx]; done) | (simp only [fa60 71 (by decide), fa57 71 (by decide), fa55 71 (by decide), kg47.fa 71 rfl, kg44.fa 71 rfl, E37_r6, er38, el39, el40, el41, el42, el43, sMn, sMx]; rfl)))), (fun _ => (show a60 72 = (cPaid (i 3200) (i 3206) x1 5 (cT0 50 i a)).2.2.2.2.2.2.2 7 from (by first | rfl | (simp only [fa60 72 (by decide), fa57 72 (by decide), fa55 72 (by decide), kg47.fa 72 rfl, kg44.fa 72 rfl, E37_r7, er38, el39, el40, el41, el42, el43, sMn, sMx]; done) | (simp only [fa60 72 (by decide), fa57 72 (by decide), fa55 72 (by decide), kg47.fa 72 rfl, kg44.fa 72 rfl, E37_r7, er38, el39, el40, el41, el42, el43, sMn, sMx]; rfl)))), (fun h => absurd (ow78 c6 z5.1 z5.2 kow0) h), (fun h => absurd (ow78 c6 z5.1 z5.2 kow0) h), (fun h => absurd (ow78 c6 z5.1 z5.2 kow0) h), (fun h => absurd (ow78 c6 z5.1 z5.2 kow0) h), (fun h => absurd (ow78 c6 z5.1 z5.2 kow0) h), (fun h => absurd (ow78 c6 z5.1 z5.2 kow0) h), (fun h => absurd (ow78 c6 z5.1 z5.2 kow0) h), (fun h => absurd (ow78 c6 z5.1 z5.2 kow0) h), (fun h => absurd (ow78 c6 z5.1 z5.2 kow0) h), (fun h => absurd (ow78 c6 z5.1 z5.2 kow0) h), (fun h => absurd (ow78 c6 z5.1 z5.2 kow0) h), (fun h => absurd (ow78 c6 z5.1 z5.2 kow0) h), (fun h => absurd (ow78 c6 z5.1 z5.2 kow0) h), (fun h => absurd (ow78 c6 z5.1 z5.2 kow0) h), (fun h => absurd (ow78 c6 z5.1 z5.2 kow0) h), (fun h => absurd (ow78 c6 z5.1 z5.2 kow0) h), (fun h => absurd (ow78 c6 z5.1 z5.2 kow0) h), (fun h => absurd (ow78 c6 z5.1 z5.2 kow0) h), (fun h => absurd (ow78 c6 z5.1 z5.2 kow0) h)⟩⟩)
            ·
              have c61 : (i7 3206).toInt ≤ (i7 3586).toInt := kd_ltF c; clear c
              refine fo_goS mi_k29 fz29_71_2_73 [.int x1, .ref 50] rfl ?_
              refine ko_callN mi_k29.1 (pc := 73) (ls := [(3, .int l3_7), (2, .int ((a 51).getD x1.toNatClampNeg 0)), (0, .ref 50), (1, .int x1)]) (st := [.int x1, .ref 50]) (h := ks i7 a7 q7 r7) (i := (.invokevirtual 96, 3, 30, 0, 9, 0, 221)) (mi_k29.2 _ _ (by rfl)) (ft_invS mi_pq30 (by rfl)) (cy := mi_c30) mi_pq30 rfl (ke30_50 hL7.I hL7.R x1 (ow67 fi_3200.2 z5.1 z5.2) (ow179 c61 efi7_3206 hp0.1)) (by decide) ?_
              intro ig62 ag62 qg62 rg62 kg62 hg62
              have hGg62 := kG_call hL7 kg62 (by decide +kernel)
              obtain ⟨hg62, og62⟩ := hg62
              have z63 : (ig62 3586).toInt = ((i7 3586).toInt - 1) := hg62
              have s64 : (l3_7 + 1).toInt = l3_7.toInt + (1 : Int32).toInt := kd_add (ow32 p7_0 kow1) (ow180 c34 kow5 kow1)
              first | refine fo_goL mi_k29 fz29_50_2_52 [(3, .int (l3_7 + 1)), (2, .int ((a 51).getD x1.toNatClampNeg 0)), (0, .ref 50), (1, .int x1)] [] (by rfl) ?_ | refine fo_goL mi_k29 fz29_76_2_52 [(3, .int (l3_7 + 1)), (2, .int ((a 51).getD x1.toNatClampNeg 0)), (0, .ref 50), (1, .int x1)] [] (by rfl) ?_
              exact ih7 _ _ _ _ _ hGg62 (ow34 p7_0 s64 kow1) (ow181 p7_1 s64 z63 kow1) (cP_again (T := cT 50 i7 a7) O7_0 (kj_five (ow182 c34 kow5) (ow40 s64 kow1)) (ow183 c61 efi7_3206) og62 (by first | rfl | (simp only [(show i7 3200 = i 3200 from hL7.fi 3200 rfl), sMn, sMx]; done) | (simp only [(show i7 3200 = i 3200 from hL7.fi 3200 rfl), sMn, sMx]; rfl))) (kj_meas (ow184 s64 kow1) (ow185 c34 kow5) hm7)
      have fi_3586 : ((0 : Int) ≤ (i 3586).toInt) ∧ ((i 3586).toInt ≤ 5) := hJ3.I.1 3586
      exact lp7 _ _ _ _ _ _ (kG_self _ hJ3.I hJ3.R) (ow9 kow0) (ow186 fi_3586.2 kow0) (by rw [kow0]; rfl) (Nat.lt_succ_self _)
    ·
      have c65 : (i 3207).toInt = (0 : Int32).toInt := kd_neF c; clear c
      refine fo_goS mi_k29 fz29_31_3_36 [.int x1, .ref 54] rfl ?_
      refine ko_iald3 mi_k29.1 (n := 8) (c := 8) (ax := (0, 0, 0, 0, 0)) (mi_k29.2 _ _ (by rfl)) (by rfl) (ksG54 _ _ _ _) (hJ3.I.2.1 54) rfl (ow4 z5.1) (ow5 fi_3200.2 z5.2) ?_
      refine ft_goS mi_k29 1 38 [.int 1, .int ((a 54).getD x1.toNatClampNeg 0)] (by rfl) ?_
      refine ft_ifS mi_k29 (((a 54).getD x1.toNatClampNeg 0) != 1) 43 41 [] (by rfl) (fun c => ?_) (fun c => ?_)
      ·
        have c66 : ((a 54).getD x1.toNatClampNeg 0).toInt ≠ (1 : Int32).toInt := kd_ne c; clear c
        refine fo_goS mi_k29 fz29_43_3_48 [.int x1, .ref 51] rfl ?_
        refine ko_iald3 mi_k29.1 (n := 8) (c := 8) (ax := (0, 0, 0, 0, 0)) (mi_k29.2 _ _ (by rfl)) (by rfl) (ksG51 _ _ _ _) (hJ3.I.2.1 51) rfl (ow4 z5.1) (ow5 fi_3200.2 z5.2) ?_
        first | refine fo_goL mi_k29 fz29_49_3_52 [(3, .int 0), (2, .int ((a 51).getD x1.toNatClampNeg 0)), (0, .ref 50), (1, .int x1)] [] (by rfl) ?_ | refine ft_goL mi_k29 3 52 [(3, .int 0), (2, .int ((a 51).getD x1.toNatClampNeg 0)), (0, .ref 50), (1, .int x1)] [] (by rfl) ?_
        have lp67 : ∀ (nz : Nat) (i67 : Nat → Int32) (a67 : Nat → List Int32) (q67 : Nat → List Int64) (r67 : Nat → Nat) (l3_67 : Int32), kG yw29_50_L52 (ku (ku (ku i 3214 8) 3215 0) 3216 0) a q r i67 a67 q67 r67 → (0 : Int) ≤ l3_67.toInt → (i67 3586).toInt ≤ (5 - l3_67.toInt) → cPaid (i 3200) (i 3206) x1 (5 - l3_67.toInt).toNat (cT 50 i67 a67) = (cPaid (i 3200) (i 3206) x1 5 (cT0 50 i a)) → ((5 - l3_67.toInt)).toNat < nz → ko 7 (mi_h29, mi_c29) P (52, [(3, .int l3_67), (2, .int ((a 51).getD x1.toNatClampNeg 0)), (0, .ref 50), (1, .int x1)], [], (0, 0), ks i67 a67 q67 r67) := by
          intro nz
          induction nz with
          | zero =>
            intro _ _ _ _ _ _ _ _ _ hm
            exact absurd hm (Nat.not_lt_zero _)
          | succ nz ih67 =>
            intro i67 a67 q67 r67 l3_67 hL67 p67_0 p67_1 O67_0 hm67
            refine fo_goL mi_k29 fz29_52_2_54 [(3, .int l3_67), (2, .int ((a 51).getD x1.toNatClampNeg 0)), (0, .ref 50), (1, .int x1)] [.int 5, .int l3_67] rfl ?_
            refine ft_ifS mi_k29 (decide (5 ≤ l3_67)) 82 57 [] (by rfl) (fun c => ?_) (fun c => ?_)
            ·
              have c68 : (5 : Int32).toInt ≤ l3_67.toInt := kd_le c; clear c
              have hG69 := kG_call hJ3 hL67 (by decide +kernel)
              have E70 : cT 50 i67 a67 = (cPaid (i 3200) (i 3206) x1 5 (cT0 50 i a)) := cP_end O67_0 (kj_five0 (ow6 c68 kow5))
              have E70_0 : i67 3586 = (cPaid (i 3200) (i 3206) x1 5 (cT0 50 i a)).1 := (cT_1 E70).1
              have E70_1 : a67 57 = (cPaid (i 3200) (i 3206) x1 5 (cT0 50 i a)).2.1 := (cT_1 E70).2.1
              have E70_2 : a67 58 = (cPaid (i 3200) (i 3206) x1 5 (cT0 50 i a)).2.2.1 := (cT_1 E70).2.2.1
              have E70_3 : a67 51 = (cPaid (i 3200) (i 3206) x1 5 (cT0 50 i a)).2.2.2.1 := (cT_1 E70).2.2.2.1
              have E70_4 : i67 3214 = (cPaid (i 3200) (i 3206) x1 5 (cT0 50 i a)).2.2.2.2.1 := (cT_1 E70).2.2.2.2.1
              have E70_5 : i67 3215 = (cPaid (i 3200) (i 3206) x1 5 (cT0 50 i a)).2.2.2.2.2.1 := (cT_1 E70).2.2.2.2.2.1
              have E70_6 : a67 63 = (cPaid (i 3200) (i 3206) x1 5 (cT0 50 i a)).2.2.2.2.2.2.1 := (cT_1 E70).2.2.2.2.2.2.1
              have E70_r0 : a67 65 = (cPaid (i 3200) (i 3206) x1 5 (cT0 50 i a)).2.2.2.2.2.2.2 0 := (cT_1 E70).2.2.2.2.2.2.2 0 (by decide)
              have E70_r1 : a67 66 = (cPaid (i 3200) (i 3206) x1 5 (cT0 50 i a)).2.2.2.2.2.2.2 1 := (cT_1 E70).2.2.2.2.2.2.2 1 (by decide)
              have E70_r2 : a67 67 = (cPaid (i 3200) (i 3206) x1 5 (cT0 50 i a)).2.2.2.2.2.2.2 2 := (cT_1 E70).2.2.2.2.2.2.2 2 (by decide)
              have E70_r3 : a67 68 = (cPaid (i 3200) (i 3206) x1 5 (cT0 50 i a)).2.2.2.2.2.2.2 3 := (cT_1 E70).2.2.2.2.2.2.2 3 (by decide)
              have E70_r4 : a67 69 = (cPaid (i 3200) (i 3206) x1 5 (cT0 50 i a)).2.2.2.2.2.2.2 4 := (cT_1 E70).2.2.2.2.2.2.2 4 (by decide)
              have E70_r5 : a67 70 = (cPaid (i 3200) (i 3206) x1 5 (cT0 50 i a)).2.2.2.2.2.2.2 5 := (cT_1 E70).2.2.2.2.2.2.2 5 (by decide)
              have E70_r6 : a67 71 = (cPaid (i 3200) (i 3206) x1 5 (cT0 50 i a)).2.2.2.2.2.2.2 6 := (cT_1 E70).2.2.2.2.2.2.2 6 (by decide)
              have E70_r7 : a67 72 = (cPaid (i 3200) (i 3206) x1 5 (cT0 50 i a)).2.2.2.2.2.2.2 7 := (cT_1 E70).2.2.2.2.2.2.2 7 (by decide)
              have er71 : r67 1 = r 1 := hL67.fr 1 rfl
              have el72 : a67 (r 1 + 1) = a (r 1 + 1) := by rcases hr.2 with hz | hz | hz <;> rw [hz] <;> exact hL67.fa _ rfl
              have el73 : a67 (r 1 + 2) = a (r 1 + 2) := by rcases hr.2 with hz | hz | hz <;> rw [hz] <;> exact hL67.fa _ rfl
              have el74 : a67 (r 1 + 3) = a (r 1 + 3) := by rcases hr.2 with hz | hz | hz <;> rw [hz] <;> exact hL67.fa _ rfl
              have el75 : i67 (64 * r 1) = i (64 * r 1) := by rcases hr.2 with hz | hz | hz <;> rw [hz] <;> exact hL67.fi _ rfl
              have el76 : i67 (64 * r 1 + 3) = i (64 * r 1 + 3) := by rcases hr.2 with hz | hz | hz <;> rw [hz] <;> exact hL67.fi _ rfl
              refine fo_goS mi_k29 fz29_82_4_86 [.int ((a 51).getD x1.toNatClampNeg 0), .int x1, .ref 50, .ref 50] rfl ?_
              refine ko_callI mi_k29.1 (pc := 86) (ls := [(3, .int l3_67), (2, .int ((a 51).getD x1.toNatClampNeg 0)), (0, .ref 50), (1, .int x1)]) (st := [.int ((a 51).getD x1.toNatClampNeg 0), .int x1, .ref 50, .ref 50]) (h := ks i67 a67 q67 r67) (i := (.invokevirtual 100, 3, 31, 0, 9, 0, 223)) (mi_k29.2 _ _ (by rfl)) (ft_invS mi_pq31 (by rfl)) (cy := mi_c31) mi_pq31 rfl (ke31_50 hG69.I hG69.R x1 ((a 51).getD x1.toNatClampNeg 0) (ow67 fi_3200.2 z5.1 z5.2)) (by decide) ?_
              intro vg77 ig77 ag77 qg77 rg77 kg77 hg77
              have hGg77 := kG_call hG69 kg77 (by decide +kernel)
              obtain ⟨hg77, og77⟩ := hg77
              have q78 : vg77 = cBuyV (i67 (64 * r67 1)) (a67 (r67 1 + 1)) (a67 (r67 1 + 2)) (a67 (r67 1 + 3)) (i67 (64 * r67 1 + 3)) ((a67 52).getD x1.toNatClampNeg 0) ((a 51).getD x1.toNatClampNeg 0) ((a67 53).getD x1.toNatClampNeg 0) (i67 3209) ((a67 55).getD x1.toNatClampNeg 0) (i67 3208) := og77
              have hJ79 := kG_i hGg77 3216 rfl (v := vg77) (kd_bd _)
              first | refine fo_goI mi_k29 fz29_89_6_101 [.int vg77, .int x1, .ref 56] (ku ig77 3216 vg77) (by rfl) ?_ | refine ft_go mi_k29 6 101 [(3, .int l3_67), (2, .int ((a 51).getD x1.toNatClampNeg 0)), (0, .ref 50), (1, .int x1)] [.int vg77, .int x1, .ref 56] (ku ig77 3216 vg77) ag77 qg77 rg77 (by rfl) ?_
              have efig77_3586 : (ig77 3586).toInt = (i67 3586).toInt := kg77.ti 3586 rfl
              refine ko_callN mi_k29.1 (pc := 101) (ls := [(3, .int l3_67), (2, .int ((a 51).getD x1.toNatClampNeg 0)), (0, .ref 50), (1, .int x1)]) (st := [.int vg77, .int x1, .ref 56]) (h := ks (ku ig77 3216 vg77) ag77 qg77 rg77) (i := (.invokevirtual 104, 3, 1, 0, 9, 0, 228)) (mi_k29.2 _ _ (by rfl)) (ft_invS mi_pq1 (by rfl)) (cy := mi_c1) mi_pq1 rfl (kf1_56 hJ79.I hJ79.R x1 vg77 (ow73 c68 efig77_3586 p67_1 kow5)) (by decide) ?_
              intro ig80 ag80 qg80 rg80 kg80 hg80
              have hGg80 := kG_call hJ79 kg80 (by decide +kernel)
              obtain ⟨hg80, og80⟩ := hg80
              have q82 : ag80 57 = (ag77 57).set (ig77 3586).toNatClampNeg x1 := og80.1
              have q83 : ag80 58 = (ag77 58).set (ig77 3586).toNatClampNeg vg77 := og80.2.1
              have q84 : ig80 3586 = ig77 3586 + 1 := og80.2.2
              have b85 : ((-2147483648 : Int) ≤ (ig80 3209).toInt) ∧ ((ig80 3209).toInt ≤ 2147483647) := kd_bd (ig80 3209)
              have hJ86 := kG_i hGg80 3209 rfl (v := ((ig80 3209) + 1)) (kd_bd _)
              first | refine fo_goI mi_k29 fz29_104_10_120 [.int x1, .ref 55, .int x1, .ref 55] (ku ig80 3209 ((ig80 3209) + 1)) (by rfl) ?_ | refine ft_go mi_k29 10 120 [(3, .int l3_67), (2, .int ((a 51).getD x1.toNatClampNeg 0)), (0, .ref 50), (1, .int x1)] [.int x1, .ref 55, .int x1, .ref 55] (ku ig80 3209 ((ig80 3209) + 1)) ag80 qg80 rg80 (by rfl) ?_
              refine ko_iald3 mi_k29.1 (n := 8) (c := 8) (ax := (0, 0, 0, 0, 0)) (mi_k29.2 _ _ (by rfl)) (by rfl) (ksG55 _ _ _ _) (hJ86.I.2.1 55) rfl (ow4 z5.1) (ow5 fi_3200.2 z5.2) ?_
              have b87 : ((-2147483648 : Int) ≤ ((ag80 55).getD x1.toNatClampNeg 0).toInt) ∧ (((ag80 55).getD x1.toNatClampNeg 0).toInt ≤ 2147483647) := kd_bd ((ag80 55).getD x1.toNatClampNeg 0)
              refine fo_goS mi_k29 fz29_121_2_123 [.int (((ag80 55).getD x1.toNatClampNeg 0) + 1), .int x1, .ref 55] rfl ?_
              refine ko_iast3 mi_k29.1 (n := 8) (c := 8) (ax := (0, 0, 0, 0, 0)) (mi_k29.2 _ _ (by rfl)) (by rfl) (ksG55 _ _ _ _) (ksA55 _ _ _ _) (hJ86.I.2.1 55) rfl (ow4 z5.1) (ow5 fi_3200.2 z5.2) ?_
              intro a88 ea88 fa88
              have hJ88 := kG_a3 hJ86 55 rfl ea88 fa88 (kd_bd _)
              refine fo_goS mi_k29 fz29_124_4_130 [.int 0, .ref 63, .int 0, .ref 63] rfl ?_
              refine ko_iald3 mi_k29.1 (n := 5) (c := 5) (ax := (0, 0, 0, 0, 0)) (mi_k29.2 _ _ (by rfl)) (by rfl) (ksG63 _ _ _ _) (hJ88.I.2.1 63) rfl (ow9 kow0) (ow74 kow0) ?_
              have b89 : ((-2147483648 : Int) ≤ ((a88 63).getD (0 : Int32).toNatClampNeg 0).toInt) ∧ (((a88 63).getD (0 : Int32).toNatClampNeg 0).toInt ≤ 2147483647) := kd_bd ((a88 63).getD (0 : Int32).toNatClampNeg 0)
              refine fo_goS mi_k29 fz29_131_2_133 [.int (((a88 63).getD (0 : Int32).toNatClampNeg 0) + 1), .int 0, .ref 63] rfl ?_
              refine ko_iast3 mi_k29.1 (n := 5) (c := 5) (ax := (0, 0, 0, 0, 0)) (mi_k29.2 _ _ (by rfl)) (by rfl) (ksG63 _ _ _ _) (ksA63 _ _ _ _) (hJ88.I.2.1 63) rfl (ow9 kow0) (ow74 kow0) ?_
              intro a90 ea90 fa90
              have hJ90 := kG_a3 hJ88 63 rfl ea90 fa90 (kd_bd _)
              refine fo_goS mi_k29 fz29_134_4_140 [.int 1, .ref 63, .int 1, .ref 63] rfl ?_
              refine ko_iald3 mi_k29.1 (n := 5) (c := 5) (ax := (0, 0, 0, 0, 0)) (mi_k29.2 _ _ (by rfl)) (by rfl) (ksG63 _ _ _ _) (hJ90.I.2.1 63) rfl (ow11 kow1) (ow75 kow1) ?_
              have b91 : ((-2147483648 : Int) ≤ ((a90 63).getD (1 : Int32).toNatClampNeg 0).toInt) ∧ (((a90 63).getD (1 : Int32).toNatClampNeg 0).toInt ≤ 2147483647) := kd_bd ((a90 63).getD (1 : Int32).toNatClampNeg 0)
              have b92 : ((-2147483648 : Int) ≤ (ig80 3215).toInt) ∧ ((ig80 3215).toInt ≤ 2147483647) := kd_bd (ig80 3215)
              refine fo_goS mi_k29 fz29_141_3_146 [.int (((a90 63).getD (1 : Int32).toNatClampNeg 0) + (ig80 3215)), .int 1, .ref 63] rfl ?_
              refine ko_iast3 mi_k29.1 (n := 5) (c := 5) (ax := (0, 0, 0, 0, 0)) (mi_k29.2 _ _ (by rfl)) (by rfl) (ksG63 _ _ _ _) (ksA63 _ _ _ _) (hJ90.I.2.1 63) rfl (ow11 kow1) (ow75 kow1) ?_
              intro a93 ea93 fa93
              have hJ93 := kG_a3 hJ90 63 rfl ea93 fa93 (kd_bd _)
              refine fo_goS mi_k29 fz29_147_2_151 [.int (ig80 3215)] rfl ?_
              exact ft_ret mi_k29 (by rfl) (hP (ig80 3215) _ _ _ _ hJ93 ⟨trivial, ⟨(fun _ => (show ig80 3586 = (cPaid (i 3200) (i 3206) x1 5 (cT0 50 i a)).1 + 1 from (by first | rfl | (simp only [q84, (show ig77 3586 = i67 3586 from kg77.fi 3586 rfl), E70_0, er71, el72, el73, el74, el75, el76, sMn, sMx]; done) | (simp only [q84, (show ig77 3586 = i67 3586 from kg77.fi 3586 rfl), E70_0, er71, el72, el73, el74, el75, el76, sMn, sMx]; rfl)))), (fun _ => (show a93 57 = (cPaid (i 3200) (i 3206) x1 5 (cT0 50 i a)).2.1.set (cPaid (i 3200) (i 3206) x1 5 (cT0 50 i a)).1.toNatClampNeg x1 from (by first | rfl | (simp only [fa93 57 (by decide), fa90 57 (by decide), fa88 57 (by decide), q82, kg77.fa 57 rfl, (show ig77 3586 = i67 3586 from kg77.fi 3586 rfl), E70_0, E70_1, er71, el72, el73, el74, el75, el76, sMn, sMx]; done) | (simp only [fa93 57 (by decide), fa90 57 (by decide), fa88 57 (by decide), q82, kg77.fa 57 rfl, (show ig77 3586 = i67 3586 from kg77.fi 3586 rfl), E70_0, E70_1, er71, el72, el73, el74, el75, el76, sMn, sMx]; rfl)))), (fun _ => (show a93 58 = (cPaid (i 3200) (i 3206) x1 5 (cT0 50 i a)).2.2.1.set (cPaid (i 3200) (i 3206) x1 5 (cT0 50 i a)).1.toNatClampNeg (cBuyV (i (64 * r 1)) (a (r 1 + 1)) (a (r 1 + 2)) (a (r 1 + 3)) (i (64 * r 1 + 3)) ((a 52).getD x1.toNatClampNeg 0) ((a 51).getD x1.toNatClampNeg 0) ((a 53).getD x1.toNatClampNeg 0) (i 3209) ((a 55).getD x1.toNatClampNeg 0) (i 3208)) from (by first | rfl | (simp only [fa93 58 (by decide), fa90 58 (by decide), fa88 58 (by decide), q83, kg77.fa 58 rfl, (show ig77 3586 = i67 3586 from kg77.fi 3586 rfl), q78, hL67.fa 52 rfl, hL67.fa 53 rfl, (show i67 3209 = i 3209 from hL67.fi 3209 rfl), hL67.fa 55 rfl, (show i67 3208 = i 3208 from hL67.fi 3208 rfl), E70_0, E70_2, er71, el72, el73, el74, el75, el76, sMn, sMx]; done) | (simp only [fa93 58 (by decide), fa90 58 (by decide), fa88 58 (by decide), q83, kg77.fa 58 rfl, (show ig77 3586 = i67 3586 from kg77.fi 3586 rfl), q78, hL67.fa 52 rfl, hL67.fa 53 rfl, (show i67 3209 = i 3209 from hL67.fi 3209 rfl), hL67.fa 55 rfl, (show i67 3208 = i 3208 from hL67.fi 3208 rfl), E70_0, E70_2, er71, el72, el73, el74, el75, el76, sMn, sMx]; rfl)))), (fun _ => (show a93 51 = (cPaid (i 3200) (i 3206) x1 5 (cT0 50 i a)).2.2.2.1 from (by first | rfl | (simp only [fa93 51 (by decide), fa90 51 (by decide), fa88 51 (by decide), kg80.fa 51 rfl, kg77.fa 51 rfl, E70_3, er71, el72, el73, el74, el75, el76, sMn, sMx]; done) | (simp only [fa93 51 (by decide), fa90 51 (by decide), fa88 51 (by decide), kg80.fa 51 rfl, kg77.fa 51 rfl, E70_3, er71, el72, el73, el74, el75, el76, sMn, sMx]; rfl)))), (fun _ => (show ig80 3214 = (cPaid (i 3200) (i 3206) x1 5 (cT0 50 i a)).2.2.2.2.1 from (by first | rfl | (simp only [(show ig80 3214 = ig77 3214 from kg80.fi 3214 rfl), (show ig77 3214 = i67 3214 from kg77.fi 3214 rfl), E70_4, er71, el72, el73, el74, el75, el76, sMn, sMx]; done) | (simp only [(show ig80 3214 = ig77 3214 from kg80.fi 3214 rfl), (show ig77 3214 = i67 3214 from kg77.fi 3214 rfl), E70_4, er71, el72, el73, el74, el75, el76, sMn, sMx]; rfl)))), (fun _ => (show ig80 3215 = (cPaid (i 3200) (i 3206) x1 5 (cT0 50 i a)).2.2.2.2.2.1 from (by first | rfl | (simp only [(show ig80 3215 = ig77 3215 from kg80.fi 3215 rfl), (show ig77 3215 = i67 3215 from kg77.fi 3215 rfl), E70_5, er71, el72, el73, el74, el75, el76, sMn, sMx]; done) | (simp only [(show ig80 3215 = ig77 3215 from kg80.fi 3215 rfl), (show ig77 3215 = i67 3215 from kg77.fi 3215 rfl), E70_5, er71, el72, el73, el74, el75, el76, sMn, sMx]; rfl)))), (fun _ => (show ig80 3216 = (cBuyV (i (64 * r 1)) (a (r 1 + 1)) (a (r 1 + 2)) (a (r 1 + 3)) (i (64 * r 1 + 3)) ((a 52).getD x1.toNatClampNeg 0) ((a 51).getD x1.toNatClampNeg 0) ((a 53).getD x1.toNatClampNeg 0) (i 3209) ((a 55).getD x1.toNatClampNeg 0) (i 3208)) from (by first | rfl | (simp only [(show ig80 3216 = vg77 from kg80.fi 3216 rfl), q78, hL67.fa 52 rfl, hL67.fa 53 rfl, (show i67 3209 = i 3209 from hL67.fi 3209 rfl), hL67.fa 55 rfl, (show i67 3208 = i 3208 from hL67.fi 3208 rfl), er71, el72, el73, el74, el75, el76, sMn, sMx]; done) | (simp only [(show ig80 3216 = vg77 from kg80.fi 3216 rfl), q78, hL67.fa 52 rfl, hL67.fa 53 rfl, (show i67 3209 = i 3209 from hL67.fi 3209 rfl), hL67.fa 55 rfl, (show i67 3208 = i 3208 from hL67.fi 3208 rfl), er71, el72, el73, el74, el75, el76, sMn, sMx]; rfl)))), (fun _ => (show ((ig80 3209) + 1) = i 3209 + 1 from (by first | rfl | (simp only [(show ig80 3209 = ig77 3209 from kg80.fi 3209 rfl), (show ig77 3209 = i67 3209 from kg77.fi 3209 rfl), (show i67 3209 = i 3209 from hL67.fi 3209 rfl), er71, el72, el73, el74, el75, el76, sMn, sMx]; done) | (simp only [(show ig80 3209 = ig77 3209 from kg80.fi 3209 rfl), (show ig77 3209 = i67 3209 from kg77.fi 3209 rfl), (show i67 3209 = i 3209 from hL67.fi 3209 rfl), er71, el72, el73, el74, el75, el76, sMn, sMx]; rfl)))), (fun _ => (show a93 55 = (a 55).set x1.toNatClampNeg ((a 55).getD x1.toNatClampNeg 0 + 1) from (by first | rfl | (simp only [fa93 55 (by decide), fa90 55 (by decide), ea88, kg80.fa 55 rfl, kg77.fa 55 rfl, hL67.fa 55 rfl, er71, el72, el73, el74, el75, el76, sMn, sMx]; done) | (simp only [fa93 55 (by decide), fa90 55 (by decide), ea88, kg80.fa 55 rfl, kg77.fa 55 rfl, hL67.fa 55 rfl, er71, el72, el73, el74, el75, el76, sMn, sMx]; rfl)))), (fun _ => (show a93 63 = ((cPaid (i 3200) (i 3206) x1 5 (cT0 50 i a)).2.2.2.2.2.2.1.set (0 : Int32).toNatClampNeg ((cPaid (i 3200) (i 3206) x1 5 (cT0 50 i a)).2.2.2.2.2.2.1.getD (0 : Int32).toNatClampNeg 0 + 1)).set (1 : Int32).toNatClampNeg (((cPaid (i 3200) (i 3206) x1 5 (cT0 50 i a)).2.2.2.2.2.2.1.set (0 : Int32).toNatClampNeg ((cPaid (i 3200) (i 3206) x1 5 (cT0 50 i a)).2.2.2.2.2.2.1.getD (0 : Int32).toNatClampNeg 0 + 1)).getD (1 : Int32).toNatClampNeg 0 + (cPaid (i 3200) (i 3206) x1 5 (cT0 50 i a)).2.2.2.2.2.1) from (by first | rfl | (simp only [ea93, ea90, (show ig80 3215 = ig77 3215 from kg80.fi 3215 rfl), (show ig77 3215 = i67 3215 from kg77.fi 3215 rfl), E70_5, fa88 63 (by decide), kg80.fa 63 rfl, kg77.fa 63 rfl, E70_6, er71, el72, el73, el74, el75, el76, sMn, sMx]; done) | (simp only [ea93, ea90, (show ig80 3215 = ig77 3215 from kg80.fi 3215 rfl), (show ig77 3215 = i67 3215 from kg77.fi 3215 rfl), E70_5, fa88 63 (by decide), kg80.fa 63 rfl, kg77.fa 63 rfl, E70_6, er71, el72, el73, el74, el75, el76, sMn, sMx]; rfl)))), (fun _ => (show (ig80 3215) = (cPaid (i 3200) (i 3206) x1 5 (cT0 50 i a)).2.2.2.2.2.1 from (by first | rfl | (simp only [(show ig80 3215 = ig77 3215 from kg80.fi 3215 rfl), (show ig77 3215 = i67 3215 from kg77.fi 3215 rfl), E70_5, er71, el72, el73, el74, el75, el76, sMn, sMx]; done) | (simp only [(show ig80 3215 = ig77 3215 from kg80.fi 3215 rfl), (show ig77 3215 = i67 3215 from kg77.fi 3215 rfl), E70_5, er71, el72, el73, el74, el75, el76, sMn, sMx]; rfl)))), (fun _ => (show a93 65 = (cPaid (i 3200) (i 3206) x1 5 (cT0 50 i a)).2.2.2.2.2.2.2 0 from (by first | rfl | (simp only [fa93 65 (by decide), fa90 65 (by decide), fa88 65 (by decide), kg80.fa 65 rfl, kg77.fa 65 rfl, E70_r0, er71, el72, el73, el74, el75, el76, sMn, sMx]; done) | (simp only [fa93 65 (by decide), fa90 65 (by decide), fa88 65 (by decide), kg80.fa 65 rfl, kg77.fa 65 rfl, E70_r0, er71, el72, el73, el74, el75, el76, sMn, sMx]; rfl)))), (fun _ => (show a93 66 = (cPaid (i 3200) (i 3206) x1 5 (cT0 50 i a)).2.2.2.2.2.2.2 1 from (by first | rfl | (simp only [fa93 66 (by decide), fa90 66 (by decide), fa88 66 (by decide), kg80.fa 66 rfl, kg77.fa 66 rfl, E70_r1, er71, el72, el73, el74, el75, el76, sMn, sMx]; done) | (simp only [fa93 66 (by decide), fa90 66 (by decide), fa88 66 (by decide), kg80.fa 66 rfl, kg77.fa 66 rfl, E70_r1, er71, el72, el73, el74, el75, el76, sMn, sMx]; rfl)))), (fun _ => (show a93 67 = (cPaid (i 3200) (i 3206) x1 5 (cT0 50 i a)).2.2.2.2.2.2.2 2 from (by first | rfl | (simp only [fa93 67 (by decide), fa90 67 (by decide), fa88 67 (by decide), kg80.fa 67 rfl, kg77.fa 67 rfl, E70_r2, er71, el72, el73, el74, el75, el76, sMn, sMx]; done) | (simp only [fa93 67 (by decide), fa90 67 (by decide), fa88 67 (by decide), kg80.fa 67 rfl, kg77.fa 67 rfl, E70_r2, er71, el72, el73, el74, el75, el76, sMn, sMx]; rfl)))), (fun _ => (show a93 68 = (cPaid (i 3200) (i 3206) x1 5 (cT0 50 i a)).2.2.2.2.2.2.2 3 from (by first | rfl | (simp only [fa93 68 (by decide), fa90 68 (by decide), fa88 68 (by decide), kg80.fa 68 rfl, kg77.fa 68 rfl, E70_r3, er71, el72, el73, el74, el75, el76, sMn, sMx]; done) | (simp only [fa93 68 (by decide), fa90 68 (by decide), fa88 68 (by decide), kg80.fa 68 rfl, kg77.fa 68 rfl, E70_r3, er71, el72, el73, el74, el75, el76, sMn, sMx]; rfl)))), (fun _ => (show a93 69 = (cPaid (i 3200) (i 3206) x1 5 (cT0 50 i a)).2.2.2.2.2.2.2 4 from (by first | rfl | (simp only [fa93 69 (by decide), fa90 69 (by decide), fa88 69 (by decide), kg80.fa 69 rfl, kg77.fa 69 rfl, E70_r4, er71, el72, el73, el74, el75, el76, sMn, sMx]; done) | (simp only [fa93 69 (by decide), fa90 69 (by decide), fa88 69 (by decide), kg80.fa 69 rfl, kg77.fa 69 rfl, E70_r4, er71, el72, el73, el74, el75, el76, sMn, sMx]; rfl)))), (fun _ => (show a93 70 = (cPaid (i 3200) (i 3206) x1 5 (cT0 50 i a)).2.2.2.2.2.2.2 5 from (by first | rfl | (simp only [fa93 70 (by decide), fa90 70 (by decide), fa88 70 (by decide), kg80.fa 70 rfl, kg77.fa 70 rfl, E70_r5, er71, el72, el73, el74, el75, el76, sMn, sMx]; done) | (simp only [fa93 70 (by decide), fa90 70 (by decide), fa88 70 (by decide), kg80.fa 70 rfl, kg77.fa 70 rfl, E70_r5, er71, el72, el73, el74, el75, el76, sMn, sMx]; rfl)))), (fun _ => (show a93 71 = (cPaid (i 3200) (i 3206) x1 5 (cT0 50 i a)).2.2.2.2.2.2.2 6 from (by first | rfl | (simp only [fa93 71 (by decide), fa90 71 (by decide), fa88 71 (by decide), kg80.fa 71 rfl, kg77.fa 71 rfl, E70_r6, er71, el72, el73, el74, el75, el76, sMn, sMx]; done) | (simp only [fa93 71 (by decide), fa90 71 (by decide), fa88 71 (by decide), kg80.fa 71 rfl, kg77.fa 71 rfl, E70_r6, er71, el72, el73, el74, el75, el76, sMn, sMx]; rfl)))), (fun _ => (show a93 72 = (cPaid (i 3200) (i 3206) x1 5 (cT0 50 i a)).2.2.2.2.2.2.2 7 from (by first | rfl | (simp only [fa93 72 (by decide), fa90 72 (by decide), fa88 72 (by decide), kg80.fa 72 rfl, kg77.fa 72 rfl, E70_r7, er71, el72, el73, el74, el75, el76, sMn, sMx]; done) | (simp only [fa93 72 (by decide), fa90 72 (by decide), fa88 72 (by decide), kg80.fa 72 rfl, kg77.fa 72 rfl, E70_r7, er71, el72, el73, el74, el75, el76, sMn, sMx]; rfl)))), (fun h => absurd (ow187 c66 z5.1 z5.2 kow1) h), (fun h => absurd (ow187 c66 z5.1 z5.2 kow1) h), (fun h => absurd (ow187 c66 z5.1 z5.2 kow1) h), (fun h => absurd (ow187 c66 z5.1 z5.2 kow1) h), (fun h => absurd (ow187 c66 z5.1 z5.2 kow1) h), (fun h => absurd (ow187 c66 z5.1 z5.2 kow1) h), (fun h => absurd (ow187 c66 z5.1 z5.2 kow1) h), (fun h => absurd (ow187 c66 z5.1 z5.2 kow1) h), (fun h => absurd (ow187 c66 z5.1 z5.2 kow1) h), (fun h => absurd (ow187 c66 z5.1 z5.2 kow1) h), (fun h => absurd (ow187 c66 z5.1 z5.2 kow1) h), (fun h => absurd (ow187 c66 z5.1 z5.2 kow1) h), (fun h => absurd (ow187 c66 z5.1 z5.2 kow1) h), (fun h => absurd (ow187 c66 z5.1 z5.2 kow1) h), (fun h => absurd (ow187 c66 z5.1 z5.2 kow1) h), (fun h => absurd (ow187 c66 z5.1 z5.2 kow1) h), (fun h => absurd (ow187 c66 z5.1 z5.2 kow1) h), (fun h => absurd (ow187 c66 z5.1 z5.2 kow1) h), (fun h => absurd (ow187 c66 z5.1 z5.2 kow1) h)⟩⟩)
            ·
              have c94 : l3_67.toInt < (5 : Int32).toInt := kd_leF c; clear c
              have efi67_3206 : (i67 3206).toInt = (i 3206).toInt := hL67.ti 3206 rfl
              refine fo_goS mi_k29 fz29_57_5_68 [.int (i67 3206), .int (i67 3586)] rfl ?_
              refine ft_ifS mi_k29 (decide ((i67 3586) < (i67 3206))) 82 71 [] (by rfl) (fun c => ?_) (fun c => ?_)
              ·
                have c95 : (i67 3586).toInt < (i67 3206).toInt := kd_lt c; clear c
                have hG96 := kG_call hJ3 hL67 (by decide +kernel)
                have E97 : cT 50 i67 a67 = (cPaid (i 3200) (i 3206) x1 5 (cT0 50 i a)) := cP_done O67_0 (ow39 c95 efi67_3206)
                have E97_0 : i67 3586 = (cPaid (i 3200) (i 3206) x1 5 (cT0 50 i a)).1 := (cT_1 E97).1
                have E97_1 : a67 57 = (cPaid (i 3200) (i 3206) x1 5 (cT0 50 i a)).2.1 := (cT_1 E97).2.1
                have E97_2 : a67 58 = (cPaid (i 3200) (i 3206) x1 5 (cT0 50 i a)).2.2.1 := (cT_1 E97).2.2.1
                have E97_3 : a67 51 = (cPaid (i 3200) (i 3206) x1 5 (cT0 50 i a)).2.2.2.1 := (cT_1 E97).2.2.2.1
                have E97_4 : i67 3214 = (cPaid (i 3200) (i 3206) x1 5 (cT0 50 i a)).2.2.2.2.1 := (cT_1 E97).2.2.2.2.1
                have E97_5 : i67 3215 = (cPaid (i 3200) (i 3206) x1 5 (cT0 50 i a)).2.2.2.2.2.1 := (cT_1 E97).2.2.2.2.2.1
                have E97_6 : a67 63 = (cPaid (i 3200) (i 3206) x1 5 (cT0 50 i a)).2.2.2.2.2.2.1 := (cT_1 E97).2.2.2.2.2.2.1
                have E97_r0 : a67 65 = (cPaid (i 3200) (i 3206) x1 5 (cT0 50 i a)).2.2.2.2.2.2.2 0 := (cT_1 E97).2.2.2.2.2.2.2 0 (by decide)
                have E97_r1 : a67 66 = (cPaid (i 3200) (i 3206) x1 5 (cT0 50 i a)).2.2.2.2.2.2.2 1 := (cT_1 E97).2.2.2.2.2.2.2 1 (by decide)
                have E97_r2 : a67 67 = (cPaid (i 3200) (i 3206) x1 5 (cT0 50 i a)).2.2.2.2.2.2.2 2 := (cT_1 E97).2.2.2.2.2.2.2 2 (by decide)
                have E97_r3 : a67 68 = (cPaid (i 3200) (i 3206) x1 5 (cT0 50 i a)).2.2.2.2.2.2.2 3 := (cT_1 E97).2.2.2.2.2.2.2 3 (by decide)
                have E97_r4 : a67 69 = (cPaid (i 3200) (i 3206) x1 5 (cT0 50 i a)).2.2.2.2.2.2.2 4 := (cT_1 E97).2.2.2.2.2.2.2 4 (by decide)
                have E97_r5 : a67 70 = (cPaid (i 3200) (i 3206) x1 5 (cT0 50 i a)).2.2.2.2.2.2.2 5 := (cT_1 E97).2.2.2.2.2.2.2 5 (by decide)
                have E97_r6 : a67 71 = (cPaid (i 3200) (i 3206) x1 5 (cT0 50 i a)).2.2.2.2.2.2.2 6 := (cT_1 E97).2.2.2.2.2.2.2 6 (by decide)
                have E97_r7 : a67 72 = (cPaid (i 3200) (i 3206) x1 5 (cT0 50 i a)).2.2.2.2.2.2.2 7 := (cT_1 E97).2.2.2.2.2.2.2 7 (by decide)
                have er98 : r67 1 = r 1 := hL67.fr 1 rfl
                have el99 : a67 (r 1 + 1) = a (r 1 + 1) := by rcases hr.2 with hz | hz | hz <;> rw [hz] <;> exact hL67.fa _ rfl
                have el100 : a67 (r 1 + 2) = a (r 1 + 2) := by rcases hr.2 with hz | hz | hz <;> rw [hz] <;> exact hL67.fa _ rfl
                have el101 : a67 (r 1 + 3) = a (r 1 + 3) := by rcases hr.2 with hz | hz | hz <;> rw [hz] <;> exact hL67.fa _ rfl
                have el102 : i67 (64 * r 1) = i (64 * r 1) := by rcases hr.2 with hz | hz | hz <;> rw [hz] <;> exact hL67.fi _ rfl
                have el103 : i67 (64 * r 1 + 3) = i (64 * r 1 + 3) := by rcases hr.2 with hz | hz | hz <;> rw [hz] <;> exact hL67.fi _ rfl
                refine fo_goS mi_k29 fz29_82_4_86 [.int ((a 51).getD x1.toNatClampNeg 0), .int x1, .ref 50, .ref 50] rfl ?_
                refine ko_callI mi_k29.1 (pc := 86) (ls := [(3, .int l3_67), (2, .int ((a 51).getD x1.toNatClampNeg 0)), (0, .ref 50), (1, .int x1)]) (st := [.int ((a 51).getD x1.toNatClampNeg 0), .int x1, .ref 50, .ref 50]) (h := ks i67 a67 q67 r67) (i := (.invokevirtual 100, 3, 31, 0, 9, 0, 223)) (mi_k29.2 _ _ (by rfl)) (ft_invS mi_pq31 (by rfl)) (cy := mi_c31) mi_pq31 rfl (ke31_50 hG96.I hG96.R x1 ((a 51).getD x1.toNatClampNeg 0) (ow67 fi_3200.2 z5.1 z5.2)) (by decide) ?_
                intro vg104 ig104 ag104 qg104 rg104 kg104 hg104
                have hGg104 := kG_call hG96 kg104 (by decide +kernel)
                obtain ⟨hg104, og104⟩ := hg104
                have q105 : vg104 = cBuyV (i67 (64 * r67 1)) (a67 (r67 1 + 1)) (a67 (r67 1 + 2)) (a67 (r67 1 + 3)) (i67 (64 * r67 1 + 3)) ((a67 52).getD x1.toNatClampNeg 0) ((a 51).getD x1.toNatClampNeg 0) ((a67 53).getD x1.toNatClampNeg 0) (i67 3209) ((a67 55).getD x1.toNatClampNeg 0) (i67 3208) := og104
                have hJ106 := kG_i hGg104 3216 rfl (v := vg104) (kd_bd _)
                first | refine fo_goI mi_k29 fz29_89_6_101 [.int vg104, .int x1, .ref 56] (ku ig104 3216 vg104) (by rfl) ?_ | refine ft_go mi_k29 6 101 [(3, .int l3_67), (2, .int ((a 51).getD x1.toNatClampNeg 0)), (0, .ref 50), (1, .int x1)] [.int vg104, .int x1, .ref 56] (ku ig104 3216 vg104) ag104 qg104 rg104 (by rfl) ?_
                have efig104_3586 : (ig104 3586).toInt = (i67 3586).toInt := kg104.ti 3586 rfl
                refine ko_callN mi_k29.1 (pc := 101) (ls := [(3, .int l3_67), (2, .int ((a 51).getD x1.toNatClampNeg 0)), (0, .ref 50), (1, .int x1)]) (st := [.int vg104, .int x1, .ref 56]) (h := ks (ku ig104 3216 vg104) ag104 qg104 rg104) (i := (.invokevirtual 104, 3, 1, 0, 9, 0, 228)) (mi_k29.2 _ _ (by rfl)) (ft_invS mi_pq1 (by rfl)) (cy := mi_c1) mi_pq1 rfl (kf1_56 hJ106.I hJ106.R x1 vg104 (ow79 c95 efi67_3206 efig104_3586 hp0.2)) (by decide) ?_
                intro ig107 ag107 qg107 rg107 kg107 hg107
                have hGg107 := kG_call hJ106 kg107 (by decide +kernel)
                obtain ⟨hg107, og107⟩ := hg107
                have q109 : ag107 57 = (ag104 57).set (ig104 3586).toNatClampNeg x1 := og107.1
                have q110 : ag107 58 = (ag104 58).set (ig104 3586).toNatClampNeg vg104 := og107.2.1
                have q111 : ig107 3586 = ig104 3586 + 1 := og107.2.2
                have b112 : ((-2147483648 : Int) ≤ (ig107 3209).toInt) ∧ ((ig107 3209).toInt ≤ 2147483647) := kd_bd (ig107 3209)
                have hJ113 := kG_i hGg107 3209 rfl (v := ((ig107 3209) + 1)) (kd_bd _)
                first | refine fo_goI mi_k29 fz29_104_10_120 [.int x1, .ref 55, .int x1, .ref 55] (ku ig107 3209 ((ig107 3209) + 1)) (by rfl) ?_ | refine ft_go mi_k29 10 120 [(3, .int l3_67), (2, .int ((a 51).getD x1.toNatClampNeg 0)), (0, .ref 50), (1, .int x1)] [.int x1, .ref 55, .int x1, .ref 55] (ku ig107 3209 ((ig107 3209) + 1)) ag107 qg107 rg107 (by rfl) ?_
                refine ko_iald3 mi_k29.1 (n := 8) (c := 8) (ax := (0, 0, 0, 0, 0)) (mi_k29.2 _ _ (by rfl)) (by rfl) (ksG55 _ _ _ _) (hJ113.I.2.1 55) rfl (ow4 z5.1) (ow5 fi_3200.2 z5.2) ?_
                have b114 : ((-2147483648 : Int) ≤ ((ag107 55).getD x1.toNatClampNeg 0).toInt) ∧ (((ag107 55).getD x1.toNatClampNeg 0).toInt ≤ 2147483647) := kd_bd ((ag107 55).getD x1.toNatClampNeg 0)
                refine fo_goS mi_k29 fz29_121_2_123 [.int (((ag107 55).getD x1.toNatClampNeg 0) + 1), .int x1, .ref 55] rfl ?_
                refine ko_iast3 mi_k29.1 (n := 8) (c := 8) (ax := (0, 0, 0, 0, 0)) (mi_k29.2 _ _ (by rfl)) (by rfl) (ksG55 _ _ _ _) (ksA55 _ _ _ _) (hJ113.I.2.1 55) rfl (ow4 z5.1) (ow5 fi_3200.2 z5.2) ?_
                intro a115 ea115 fa115
                have hJ115 := kG_a3 hJ113 55 rfl ea115 fa115 (kd_bd _)
                refine fo_goS mi_k29 fz29_124_4_130 [.int 0, .ref 63, .int 0, .ref 63] rfl ?_
                refine ko_iald3 mi_k29.1 (n := 5) (c := 5) (ax := (0, 0, 0, 0, 0)) (mi_k29.2 _ _ (by rfl)) (by rfl) (ksG63 _ _ _ _) (hJ115.I.2.1 63) rfl (ow9 kow0) (ow74 kow0) ?_
                have b116 : ((-2147483648 : Int) ≤ ((a115 63).getD (0 : Int32).toNatClampNeg 0).toInt) ∧ (((a115 63).getD (0 : Int32).toNatClampNeg 0).toInt ≤ 2147483647) := kd_bd ((a115 63).getD (0 : Int32).toNatClampNeg 0)
                refine fo_goS mi_k29 fz29_131_2_133 [.int (((a115 63).getD (0 : Int32).toNatClampNeg 0) + 1), .int 0, .ref 63] rfl ?_
                refine ko_iast3 mi_k29.1 (n := 5) (c := 5) (ax := (0, 0, 0, 0, 0)) (mi_k29.2 _ _ (by rfl)) (by rfl) (ksG63 _ _ _ _) (ksA63 _ _ _ _) (hJ115.I.2.1 63) rfl (ow9 kow0) (ow74 kow0) ?_
                intro a117 ea117 fa117
                have hJ117 := kG_a3 hJ115 63 rfl ea117 fa117 (kd_bd _)
                refine fo_goS mi_k29 fz29_134_4_140 [.int 1, .ref 63, .int 1, .ref 63] rfl ?_
                refine ko_iald3 mi_k29.1 (n := 5) (c := 5) (ax := (0, 0, 0, 0, 0)) (mi_k29.2 _ _ (by rfl)) (by rfl) (ksG63 _ _ _ _) (hJ117.I.2.1 63) rfl (ow11 kow1) (ow75 kow1) ?_
                have b118 : ((-2147483648 : Int) ≤ ((a117 63).getD (1 : Int32).toNatClampNeg 0).toInt) ∧ (((a117 63).getD (1 : Int32).toNatClampNeg 0).toInt ≤ 2147483647) := kd_bd ((a117 63).getD (1 : Int32).toNatClampNeg 0)
                have b119 : ((-2147483648 : Int) ≤ (ig107 3215).toInt) ∧ ((ig107 3215).toInt ≤ 2147483647) := kd_bd (ig107 3215)
                refine fo_goS mi_k29 fz29_141_3_146 [.int (((a117 63).getD (1 : Int32).toNatClampNeg 0) + (ig107 3215)), .int 1, .ref 63] rfl ?_
                refine ko_iast3 mi_k29.1 (n := 5) (c := 5) (ax := (0, 0, 0, 0, 0)) (mi_k29.2 _ _ (by rfl)) (by rfl) (ksG63 _ _ _ _) (ksA63 _ _ _ _) (hJ117.I.2.1 63) rfl (ow11 kow1) (ow75 kow1) ?_
                intro a120 ea120 fa120
                have hJ120 := kG_a3 hJ117 63 rfl ea120 fa120 (kd_bd _)
                refine fo_goS mi_k29 fz29_147_2_151 [.int (ig107 3215)] rfl ?_
                exact ft_ret mi_k29 (by rfl) (hP (ig107 3215) _ _ _ _ hJ120 ⟨trivial, ⟨(fun _ => (show ig107 3586 = (cPaid (i 3200) (i 3206) x1 5 (cT0 50 i a)).1 + 1 from (by first | rfl | (simp only [q111, (show ig104 3586 = i67 3586 from kg104.fi 3586 rfl), E97_0, er98, el99, el100, el101, el102, el103, sMn, sMx]; done) | (simp only [q111, (show ig104 3586 = i67 3586 from kg104.fi 3586 rfl), E97_0, er98, el99, el100, el101, el102, el103, sMn, sMx]; rfl)))), (fun _ => (show a120 57 = (cPaid (i 3200) (i 3206) x1 5 (cT0 50 i a)).2.1.set (cPaid (i 3200) (i 3206) x1 5 (cT0 50 i a)).1.toNatClampNeg x1 from (by first | rfl | (simp only [fa120 57 (by decide), fa117 57 (by decide), fa115 57 (by decide), q109, kg104.fa 57 rfl, (show ig104 3586 = i67 3586 from kg104.fi 3586 rfl), E97_0, E97_1, er98, el99, el100, el101, el102, el103, sMn, sMx]; done) | (simp only [fa120 57 (by decide), fa117 57 (by decide), fa115 57 (by decide), q109, kg104.fa 57 rfl, (show ig104 3586 = i67 3586 from kg104.fi 3586 rfl), E97_0, E97_1, er98, el99, el100, el101, el102, el103, sMn, sMx]; rfl)))), (fun _ => (show a120 58 = (cPaid (i 3200) (i 3206) x1 5 (cT0 50 i a)).2.2.1.set (cPaid (i 3200) (i 3206) x1 5 (cT0 50 i a)).1.toNatClampNeg (cBuyV (i (64 * r 1)) (a (r 1 + 1)) (a (r 1 + 2)) (a (r 1 + 3)) (i (64 * r 1 + 3)) ((a 52).getD x1.toNatClampNeg 0) ((a 51).getD x1.toNatClampNeg 0) ((a 53).getD x1.toNatClampNeg 0) (i 3209) ((a 55).getD x1.toNatClampNeg 0) (i 3208)) from (by first | rfl | (simp only [fa120 58 (by decide), fa117 58 (by decide), fa115 58 (by decide), q110, kg104.fa 58 rfl, (show ig104 3586 = i67 3586 from kg104.fi 3586 rfl), q105, hL67.fa 52 rfl, hL67.fa 53 rfl, (show i67 3209 = i 3209 from hL67.fi 3209 rfl), hL67.fa 55 rfl, (show i67 3208 = i 3208 from hL67.fi 3208 rfl), E97_0, E97_2, er98, el99, el100, el101, el102, el103, sMn, sMx]; done) | (simp only [fa120 58 (by decide), fa117 58 (by decide), fa115 58 (by decide), q110, kg104.fa 58 rfl, (show ig104 3586 = i67 3586 from kg104.fi 3586 rfl), q105, hL67.fa 52 rfl, hL67.fa 53 rfl, (show i67 3209 = i 3209 from hL67.fi 3209 rfl), hL67.fa 55 rfl, (show i67 3208 = i 3208 from hL67.fi 3208 rfl), E97_0, E97_2, er98, el99, el100, el101, el102, el103, sMn, sMx]; rfl)))), (fun _ => (show a120 51 = (cPaid (i 3200) (i 3206) x1 5 (cT0 50 i a)).2.2.2.1 from (by first | rfl | (simp only [fa120 51 (by decide), fa117 51 (by decide), fa115 51 (by decide), kg107.fa 51 rfl, kg104.fa 51 rfl, E97_3, er98, el99, el100, el101, el102, el103, sMn, sMx]; done) | (simp only [fa120 51 (by decide), fa117 51 (by decide), fa115 51 (by decide), kg107.fa 51 rfl, kg104.fa 51 rfl, E97_3, er98, el99, el100, el101, el102, el103, sMn, sMx]; rfl)))), (fun _ => (show ig107 3214 = (cPaid (i 3200) (i 3206) x1 5 (cT0 50 i a)).2.2.2.2.1 from (by first | rfl | (simp only [(show ig107 3214 = ig104 3214 from kg107.fi 3214 rfl), (show ig104 3214 = i67 3214 from kg104.fi 3214 rfl), E97_4, er98, el99, el100, el101, el102, el103, sMn, sMx]; done) | (simp only [(show ig107 3214 = ig104 3214 from kg107.fi 3214 rfl), (show ig104 3214 = i67 3214 from kg104.fi 3214 rfl), E97_4, er98, el99, el100, el101, el102, el103, sMn, sMx]; rfl)))), (fun _ => (show ig107 3215 = (cPaid (i 3200) (i 3206) x1 5 (cT0 50 i a)).2.2.2.2.2.1 from (by first | rfl | (simp only [(show ig107 3215 = ig104 3215 from kg107.fi 3215 rfl), (show ig104 3215 = i67 3215 from kg104.fi 3215 rfl), E97_5, er98, el99, el100, el101, el102, el103, sMn, sMx]; done) | (simp only [(show ig107 3215 = ig104 3215 from kg107.fi 3215 rfl), (show ig104 3215 = i67 3215 from kg104.fi 3215 rfl), E97_5, er98, el99, el100, el101, el102, el103, sMn, sMx]; rfl)))), (fun _ => (show ig107 3216 = (cBuyV (i (64 * r 1)) (a (r 1 + 1)) (a (r 1 + 2)) (a (r 1 + 3)) (i (64 * r 1 + 3)) ((a 52).getD x1.toNatClampNeg 0) ((a 51).getD x1.toNatClampNeg 0) ((a 53).getD x1.toNatClampNeg 0) (i 3209) ((a 55).getD x1.toNatClampNeg 0) (i 3208)) from (by first | rfl | (simp only [(show ig107 3216 = vg104 from kg107.fi 3216 rfl), q105, hL67.fa 52 rfl, hL67.fa 53 rfl, (show i67 3209 = i 3209 from hL67.fi 3209 rfl), hL67.fa 55 rfl, (show i67 3208 = i 3208 from hL67.fi 3208 rfl), er98, el99, el100, el101, el102, el103, sMn, sMx]; done) | (simp only [(show ig107 3216 = vg104 from kg107.fi 3216 rfl), q105, hL67.fa 52 rfl, hL67.fa 53 rfl, (show i67 3209 = i 3209 from hL67.fi 3209 rfl), hL67.fa 55 rfl, (show i67 3208 = i 3208 from hL67.fi 3208 rfl), er98, el99, el100, el101, el102, el103, sMn, sMx]; rfl)))), (fun _ => (show ((ig107 3209) + 1) = i 3209 + 1 from (by first | rfl | (simp only [(show ig107 3209 = ig104 3209 from kg107.fi 3209 rfl), (show ig104 3209 = i67 3209 from kg104.fi 3209 rfl), (show i67 3209 = i 3209 from hL67.fi 3209 rfl), er98, el99, el100, el101, el102, el103, sMn, sMx]; done) | (simp only [(show ig107 3209 = ig104 3209 from kg107.fi 3209 rfl), (show ig104 3209 = i67 3209 from kg104.fi 3209 rfl), (show i67 3209 = i 3209 from hL67.fi 3209 rfl), er98, el99, el100, el101, el102, el103, sMn, sMx]; rfl)))), (fun _ => (show a120 55 = (a 55).set x1.toNatClampNeg ((a 55).getD x1.toNatClampNeg 0 + 1) from (by first | rfl | (simp only [fa120 55 (by decide), fa117 55 (by decide), ea115, kg107.fa 55 rfl, kg104.fa 55 rfl, hL67.fa 55 rfl, er98, el99, el100, el101, el102, el103, sMn, sMx]; done) | (simp only [fa120 55 (by decide), fa117 55 (by decide), ea115, kg107.fa 55 rfl, kg104.fa 55 rfl, hL67.fa 55 rfl, er98, el99, el100, el101, el102, el103, sMn, sMx]; rfl)))), (fun _ => (show a120 63 = ((cPaid (i 3200) (i 3206) x1 5 (cT0 50 i a)).2.2.2.2.2.2.1.set (0 : Int32).toNatClampNeg ((cPaid (i 3200) (i 3206) x1 5 (cT0 50 i a)).2.2.2.2.2.2.1.getD (0 : Int32).toNatClampNeg 0 + 1)).set (1 : Int32).toNatClampNeg (((cPaid (i 3200) (i 3206) x1 5 (cT0 50 i a)).2.2.2.2.2.2.1.set (0 : Int32).toNatClampNeg ((cPaid (i 3200) (i 3206) x1 5 (cT0 50 i a)).2.2.2.2.2.2.1.getD (0 : Int32).toNatClampNeg 0 + 1)).getD (1 : Int32).toNatClampNeg 0 + (cPaid (i 3200) (i 3206) x1 5 (cT0 50 i a)).2.2.2.2.2.1) from (by first | rfl | (simp only [ea120, ea117, (show ig107 3215 = ig104 3215 from kg107.fi 3215 rfl), (show ig104 3215 = i67 3215 from kg104.fi 3215 rfl), E97_5, fa115 63 (by decide), kg107.fa 63 rfl, kg104.fa 63 rfl, E97_6, er98, el99, el100, el101, el102, el103, sMn, sMx]; done) | (simp only [ea120, ea117, (show ig107 3215 = ig104 3215 from kg107.fi 3215 rfl), (show ig104 3215 = i67 3215 from kg104.fi 3215 rfl), E97_5, fa115 63 (by decide), kg107.fa 63 rfl, kg104.fa 63 rfl, E97_6, er98, el99, el100, el101, el102, el103, sMn, sMx]; rfl)))), (fun _ => (show (ig107 3215) = (cPaid (i 3200) (i 3206) x1 5 (cT0 50 i a)).2.2.2.2.2.1 from (by first | rfl | (simp only [(show ig107 3215 = ig104 3215 from kg107.fi 3215 rfl), (show ig104 3215 = i67 3215 from kg104.fi 3215 rfl), E97_5, er98, el99, el100, el101, el102, el103, sMn, sMx]; done) | (simp only [(show ig107 3215 = ig104 3215 from kg107.fi 3215 rfl), (show ig104 3215 = i67 3215 from kg104.fi 3215 rfl), E97_5, er98, el99, el100, el101, el102, el103, sMn, sMx]; rfl)))), (fun _ => (show a120 65 = (cPaid (i 3200) (i 3206) x1 5 (cT0 50 i a)).2.2.2.2.2.2.2 0 from (by first | rfl | (simp only [fa120 65 (by decide), fa117 65 (by decide), fa115 65 (by decide), kg107.fa 65 rfl, kg104.fa 65 rfl, E97_r0, er98, el99, el100, el101, el102, el103, sMn, sMx]; done) | (simp only [fa120 65 (by decide), fa117 65 (by decide), fa115 65 (by decide), kg107.fa 65 rfl, kg104.fa 65 rfl, E97_r0, er98, el99, el100, el101, el102, el103, sMn, sMx]; rfl)))), (fun _ => (show a120 66 = (cPaid (i 3200) (i 3206) x1 5 (cT0 50 i a)).2.2.2.2.2.2.2 1 from (by first | rfl | (simp only [fa120 66 (by decide), fa117 66 (by decide), fa115 66 (by decide), kg107.fa 66 rfl, kg104.fa 66 rfl, E97_r1, er98, el99, el100, el101, el102, el103, sMn, sMx]; done) | (simp only [fa120 66 (by decide), fa117 66 (by decide), fa115 66 (by decide), kg107.fa 66 rfl, kg104.fa 66 rfl, E97_r1, er98, el99, el100, el101, el102, el103, sMn, sMx]; rfl)))), (fun _ => (show a120 67 = (cPaid (i 3200) (i 3206) x1 5 (cT0 50 i a)).2.2.2.2.2.2.2 2 from (by first | rfl | (simp only [fa120 67 (by decide), fa117 67 (by decide), fa115 67 (by decide), kg107.fa 67 rfl, kg104.fa 67 rfl, E97_r2, er98, el99, el100, el101, el102, el103, sMn, sMx]; done) | (simp only [fa120 67 (by decide), fa117 67 (by decide), fa115 67 (by decide), kg107.fa 67 rfl, kg104.fa 67 rfl, E97_r2, er98, el99, el100, el101, el102, el103, sMn, sMx]; rfl)))), (fun _ => (show a120 68 = (cPaid (i 3200) (i 3206) x1 5 (cT0 50 i a)).2.2.2.2.2.2.2 3 from (by first | rfl | (simp only [fa120 68 (by decide), fa117 68 (by decide), fa115 68 (by decide), kg107.fa 68 rfl, kg104.fa 68 rfl, E97_r3, er98, el99, el100, el101, el102, el103, sMn, sMx]; done) | (simp only [fa120 68 (by decide), fa117 68 (by decide), fa115 68 (by decide), kg107.fa 68 rfl, kg104.fa 68 rfl, E97_r3, er98, el99, el100, el101, el102, el103, sMn, sMx]; rfl)))), (fun _ => (show a120 69 = (cPaid (i 3200) (i 3206) x1 5 (cT0 50 i a)).2.2.2.2.2.2.2 4 from (by first | rfl | (simp only [fa120 69 (by decide), fa117 69 (by decide), fa115 69 (by decide), kg107.fa 69 rfl, kg104.fa 69 rfl, E97_r4, er98, el99, el100, el101, el102, el103, sMn, sMx]; done) | (simp only [fa120 69 (by decide), fa117 69 (by decide), fa115 69 (by decide), kg107.fa 69 rfl, kg104.fa 69 rfl, E97_r4, er98, el99, el100, el101, el102, el103, sMn, sMx]; rfl)))), (fun _ => (show a120 70 = (cPaid (i 3200) (i 3206) x1 5 (cT0 50 i a)).2.2.2.2.2.2.2 5 from (by first | rfl | (simp only [fa120 70 (by decide), fa117 70 (by decide), fa115 70 (by decide), kg107.fa 70 rfl, kg104.fa 70 rfl, E97_r5, er98, el99, el100, el101, el102, el103, sMn, sMx]; done) | (simp only [fa120 70 (by decide), fa117 70 (by decide), fa115 70 (by decide), kg107.fa 70 rfl, kg104.fa 70 rfl, E97_r5, er98, el99, el100, el101, el102, el103, sMn, sMx]; rfl)))), (fun _ => (show a120 71 = (cPaid (i 3200) (i 3206) x1 5 (cT0 50 i a)).2.2.2.2.2.2.2 6 from (by first | rfl | (simp only [fa120 71 (by decide), fa117 71 (by decide), fa115 71 (by decide), kg107.fa 71 rfl, kg104.fa 71 rfl, E97_r6, er98, el99, el100, el101, el102, el103, sMn, sMx]; done) | (simp only [fa120 71 (by decide), fa117 71 (by decide), fa115 71 (by decide), kg107.fa 71 rfl, kg104.fa 71 rfl, E97_r6, er98, el99, el100, el101, el102, el103, sMn, sMx]; rfl)))), (fun _ => (show a120 72 = (cPaid (i 3200) (i 3206) x1 5 (cT0 50 i a)).2.2.2.2.2.2.2 7 from (by first | rfl | (simp only [fa120 72 (by decide), fa117 72 (by decide), fa115 72 (by decide), kg107.fa 72 rfl, kg104.fa 72 rfl, E97_r7, er98, el99, el100, el101, el102, el103, sMn, sMx]; done) | (simp only [fa120 72 (by decide), fa117 72 (by decide), fa115 72 (by decide), kg107.fa 72 rfl, kg104.fa 72 rfl, E97_r7, er98, el99, el100, el101, el102, el103, sMn, sMx]; rfl)))), (fun h => absurd (ow187 c66 z5.1 z5.2 kow1) h), (fun h => absurd (ow187 c66 z5.1 z5.2 kow1) h), (fun h => absurd (ow187 c66 z5.1 z5.2 kow1) h), (fun h => absurd (ow187 c66 z5.1 z5.2 kow1) h), (fun h => absurd (ow187 c66 z5.1 z5.2 kow1) h), (fun h => absurd (ow187 c66 z5.1 z5.2 kow1) h), (fun h => absurd (ow187 c66 z5.1 z5.2 kow1) h), (fun h => absurd (ow187 c66 z5.1 z5.2 kow1) h), (fun h => absurd (ow187 c66 z5.1 z5.2 kow1) h), (fun h => absurd (ow187 c66 z5.1 z5.2 kow1) h), (fun h => absurd (ow187 c66 z5.1 z5.2 kow1) h), (fun h => absurd (ow187 c66 z5.1 z5.2 kow1) h), (fun h => absurd (ow187 c66 z5.1 z5.2 kow1) h), (fun h => absurd (ow187 c66 z5.1 z5.2 kow1) h), (fun h => absurd (ow187 c66 z5.1 z5.2 kow1) h), (fun h => absurd (ow187 c66 z5.1 z5.2 kow1) h), (fun h => absurd (ow187 c66 z5.1 z5.2 kow1) h), (fun h => absurd (ow187 c66 z5.1 z5.2 kow1) h), (fun h => absurd (ow187 c66 z5.1 z5.2 kow1) h)⟩⟩)
              ·
                have c121 : (i67 3206).toInt ≤ (i67 3586).toInt := kd_ltF c; clear c
                refine fo_goS mi_k29 fz29_71_2_73 [.int x1, .ref 50] rfl ?_
                refine ko_callN mi_k29.1 (pc := 73) (ls := [(3, .int l3_67), (2, .int ((a 51).getD x1.toNatClampNeg 0)), (0, .ref 50), (1, .int x1)]) (st := [.int x1, .ref 50]) (h := ks i67 a67 q67 r67) (i := (.invokevirtual 96, 3, 30, 0, 9, 0, 221)) (mi_k29.2 _ _ (by rfl)) (ft_invS mi_pq30 (by rfl)) (cy := mi_c30) mi_pq30 rfl (ke30_50 hL67.I hL67.R x1 (ow67 fi_3200.2 z5.1 z5.2) (ow179 c121 efi67_3206 hp0.1)) (by decide) ?_
                intro ig122 ag122 qg122 rg122 kg122 hg122
                have hGg122 := kG_call hL67 kg122 (by decide +kernel)
                obtain ⟨hg122, og122⟩ := hg122
                have z123 : (ig122 3586).toInt = ((i67 3586).toInt - 1) := hg122
                have s124 : (l3_67 + 1).toInt = l3_67.toInt + (1 : Int32).toInt := kd_add (ow32 p67_0 kow1) (ow180 c94 kow5 kow1)
                first | refine fo_goL mi_k29 fz29_50_2_52 [(3, .int (l3_67 + 1)), (2, .int ((a 51).getD x1.toNatClampNeg 0)), (0, .ref 50), (1, .int x1)] [] (by rfl) ?_ | refine fo_goL mi_k29 fz29_76_2_52 [(3, .int (l3_67 + 1)), (2, .int ((a 51).getD x1.toNatClampNeg 0)), (0, .ref 50), (1, .int x1)] [] (by rfl) ?_
                exact ih67 _ _ _ _ _ hGg122 (ow34 p67_0 s124 kow1) (ow181 p67_1 s124 z123 kow1) (cP_again (T := cT 50 i67 a67) O67_0 (kj_five (ow182 c94 kow5) (ow40 s124 kow1)) (ow183 c121 efi67_3206) og122 (by first | rfl | (simp only [(show i67 3200 = i 3200 from hL67.fi 3200 rfl), sMn, sMx]; done) | (simp only [(show i67 3200 = i 3200 from hL67.fi 3200 rfl), sMn, sMx]; rfl))) (kj_meas (ow184 s124 kow1) (ow185 c94 kow5) hm67)
        have fi_3586 : ((0 : Int) ≤ (i 3586).toInt) ∧ ((i 3586).toInt ≤ 5) := hJ3.I.1 3586
        exact lp67 _ _ _ _ _ _ (kG_self _ hJ3.I hJ3.R) (ow9 kow0) (ow186 fi_3586.2 kow0) (by rw [kow0]; rfl) (Nat.lt_succ_self _)
      ·
        have c125 : ((a 54).getD x1.toNatClampNeg 0).toInt = (1 : Int32).toInt := kd_neF c; clear c
        refine ft_goS mi_k29 1 42 [.int 0] (by rfl) ?_
        exact ft_ret mi_k29 (by rfl) (hP 0 _ _ _ _ hJ3 ⟨trivial, ⟨(fun h => absurd h (ow188 c125 c65 kow1 kow0)), (fun h => absurd h (ow188 c125 c65 kow1 kow0)), (fun h => absurd h (ow188 c125 c65 kow1 kow0)), (fun h => absurd h (ow188 c125 c65 kow1 kow0)), (fun h => absurd h (ow188 c125 c65 kow1 kow0)), (fun h => absurd h (ow188 c125 c65 kow1 kow0)), (fun h => absurd h (ow188 c125 c65 kow1 kow0)), (fun h => absurd h (ow188 c125 c65 kow1 kow0)), (fun h => absurd h (ow188 c125 c65 kow1 kow0)), (fun h => absurd h (ow188 c125 c65 kow1 kow0)), (fun h => absurd h (ow188 c125 c65 kow1 kow0)), (fun h => absurd h (ow188 c125 c65 kow1 kow0)), (fun h => absurd h (ow188 c125 c65 kow1 kow0)), (fun h => absurd h (ow188 c125 c65 kow1 kow0)), (fun h => absurd h (ow188 c125 c65 kow1 kow0)), (fun h => absurd h (ow188 c125 c65 kow1 kow0)), (fun h => absurd h (ow188 c125 c65 kow1 kow0)), (fun h => absurd h (ow188 c125 c65 kow1 kow0)), (fun h => absurd h (ow188 c125 c65 kow1 kow0)), (fun _ => (show i 3586 = i 3586 from rfl)), (fun _ => (show a 57 = a 57 from rfl)), (fun _ => (show a 58 = a 58 from rfl)), (fun _ => (show a 51 = a 51 from rfl)), (fun _ => (show a 55 = a 55 from rfl)), (fun _ => (show a 63 = a 63 from rfl)), (fun _ => (show (8 : Int32) = 8 from (by first | rfl | (simp only [sMn, sMx]; done) | (simp only [sMn, sMx]; rfl)))), (fun _ => (show (0 : Int32) = 0 from (by first | rfl | (simp only [sMn, sMx]; done) | (simp only [sMn, sMx]; rfl)))), (fun _ => (show (0 : Int32) = 0 from (by first | rfl | (simp only [sMn, sMx]; done) | (simp only [sMn, sMx]; rfl)))), (fun _ => (show i 3209 = i 3209 from rfl)), (fun _ => (show (0 : Int32) = 0 from (by first | rfl | (simp only [sMn, sMx]; done) | (simp only [sMn, sMx]; rfl)))), (fun _ => (show a 65 = a 65 from rfl)), (fun _ => (show a 66 = a 66 from rfl)), (fun _ => (show a 67 = a 67 from rfl)), (fun _ => (show a 68 = a 68 from rfl)), (fun _ => (show a 69 = a 69 from rfl)), (fun _ => (show a 70 = a 70 from rfl)), (fun _ => (show a 71 = a 71 from rfl)), (fun _ => (show a 72 = a 72 from rfl))⟩⟩)
  ·
    subst eg4
    have z126 : ¬ (((0 : Int) ≤ x1.toInt) ∧ (x1.toInt < (i 3200).toInt)) := hg4
    first | refine fo_goS mi_k29 fz29_21_2_42 [.int 0] (by rfl) ?_ | refine ft_goS mi_k29 2 42 [.int 0] (by rfl) ?_
    exact ft_ret mi_k29 (by rfl) (hP 0 _ _ _ _ hJ3 ⟨trivial, ⟨(fun h => absurd h (ow189 z126)), (fun h => absurd h (ow189 z126)), (fun h => absurd h (ow189 z126)), (fun h => absurd h (ow189 z126)), (fun h => absurd h (ow189 z126)), (fun h => absurd h (ow189 z126)), (fun h => absurd h (ow189 z126)), (fun h => absurd h (ow189 z126)), (fun h => absurd h (ow189 z126)), (fun h => absurd h (ow189 z126)), (fun h => absurd h (ow189 z126)), (fun h => absurd h (ow189 z126)), (fun h => absurd h (ow189 z126)), (fun h => absurd h (ow189 z126)), (fun h => absurd h (ow189 z126)), (fun h => absurd h (ow189 z126)), (fun h => absurd h (ow189 z126)), (fun h => absurd h (ow189 z126)), (fun h => absurd h (ow189 z126)), (fun _ => (show i 3586 = i 3586 from rfl)), (fun _ => (show a 57 = a 57 from rfl)), (fun _ => (show a 58 = a 58 from rfl)), (fun _ => (show a 51 = a 51 from rfl)), (fun _ => (show a 55 = a 55 from rfl)), (fun _ => (show a 63 = a 63 from rfl)), (fun _ => (show (8 : Int32) = 8 from (by first | rfl | (simp only [sMn, sMx]; done) | (simp only [sMn, sMx]; rfl)))), (fun _ => (show (0 : Int32) = 0 from (by first | rfl | (simp only [sMn, sMx]; done) | (simp only [sMn, sMx]; rfl)))), (fun _ => (show (0 : Int32) = 0 from (by first | rfl | (simp only [sMn, sMx]; done) | (simp only [sMn, sMx]; rfl)))), (fun _ => (show i 3209 = i 3209 from rfl)), (fun _ => (show (0 : Int32) = 0 from (by first | rfl | (simp only [sMn, sMx]; done) | (simp only [sMn, sMx]; rfl)))), (fun _ => (show a 65 = a 65 from rfl)), (fun _ => (show a 66 = a 66 from rfl)), (fun _ => (show a 67 = a 67 from rfl)), (fun _ => (show a 68 = a 68 from rfl)), (fun _ => (show a 69 = a 69 from rfl)), (fun _ => (show a 70 = a 70 from rfl)), (fun _ => (show a 71 = a 71 from rfl)), (fun _ => (show a 72 = a 72 from rfl))⟩⟩)
noncomputable def yw3_56_7 : kW := ([3586], [57, 58], [], [])
set_option maxRecDepth 100000 in
theorem ke3_56_7 {i : Nat → Int32} {a : Nat → List Int32} {q : Nat → List Int64} {r : Nat → Nat} (hI : kI i a q) (hr : kr r)  : km 1 3 [.ref 56, .ref 7] (ks i a q r) (kVN yw3_56_7 i a q r (fun i1 a1 q1 r1 => (True) ∧ (a1 57 = mi_cpy (a 8) (a 57) (0 : Int32).toNatClampNeg (0 : Int32).toNatClampNeg (5 : Int32).toNatClampNeg ∧ a1 58 = mi_cpy (a 9) (a 58) (0 : Int32).toNatClampNeg (0 : Int32).toNatClampNeg (5 : Int32).toNatClampNeg ∧ i1 3586 = i 450))) := by
  have hG := kG_self yw3_56_7 hI hr
  refine km_ofN (q := (mi_h3, mi_c3)) rfl (by decide) (Nat.le_of_ble_eq_true rfl) ?_
  intro P hP
  refine fo_goL mi_k3 fz3_0_7_11 [(0, .ref 56), (1, .ref 7)] [.int 5, .int 0, .ref 57, .int 0, .ref 8] rfl ?_
  refine ko_copyI3 mi_k3.1 (n := 5) (c := 5) (m := 5) (b := 5) (mi_k3.2 _ _ (by rfl)) (by rfl) (by rfl) (by rfl) (ksG8 _ _ _ _) (ksG57 _ _ _ _) (ksA57 _ _ _ _) (hG.I.2.1 8) rfl (hG.I.2.1 57) rfl (ow19 kow5) (ow9 kow0) (ow9 kow0) (ow191 kow0 kow5) (ow191 kow0 kow5) ?_
  intro a2 ea2 fa2
  have hJ2 := kG_al3 hG 57 rfl ea2 fa2 (kcpy_len2 (n := 5) (c := 5) (m := 5) (b := 5) (sp := 0) (dp := 0) (n1 := 5) (hG.I.2.1 8) rfl (hG.I.2.1 57) rfl (ow19 kow5) (ow9 kow0) (ow9 kow0) (ow191 kow0 kow5) (ow191 kow0 kow5)) (fun _ => kd_bd _)
  refine fo_goS mi_k3 fz3_14_7_25 [.int 5, .int 0, .ref 58, .int 0, .ref 9] rfl ?_
  refine ko_copyI3 mi_k3.1 (n := 5) (c := 5) (m := 5) (b := 5) (mi_k3.2 _ _ (by rfl)) (by rfl) (by rfl) (by rfl) (ksG9 _ _ _ _) (ksG58 _ _ _ _) (ksA58 _ _ _ _) (hJ2.I.2.1 9) rfl (hJ2.I.2.1 58) rfl (ow19 kow5) (ow9 kow0) (ow9 kow0) (ow191 kow0 kow5) (ow191 kow0 kow5) ?_
  intro a4 ea4 fa4
  have hJ4 := kG_al3 hJ2 58 rfl ea4 fa4 (kcpy_len2 (n := 5) (c := 5) (m := 5) (b := 5) (sp := 0) (dp := 0) (n1 := 5) (hJ2.I.2.1 9) rfl (hJ2.I.2.1 58) rfl (ow19 kow5) (ow9 kow0) (ow9 kow0) (ow191 kow0 kow5) (ow191 kow0 kow5)) (fun _ => kd_bd _)
  have fi_450 : ((0 : Int) ≤ (i 450).toInt) ∧ ((i 450).toInt ≤ 5) := hJ4.I.1 450
  have hJ5 := kG_i hJ4 3586 rfl (v := (i 450)) ⟨(ow4 fi_450.1), (ow192 fi_450.2)⟩
  first | refine fo_goI mi_k3 fz3_28_4_36 [] (ku i 3586 (i 450)) (by rfl) ?_ | refine ft_go mi_k3 4 36 [(0, .ref 56), (1, .ref 7)] [] (ku i 3586 (i 450)) a4 q r (by rfl) ?_
  exact ft_ret mi_k3 (by rfl) (hP  _ _ _ _ hJ5 ⟨trivial, ⟨(show a4 57 = mi_cpy (a 8) (a 57) (0 : Int32).toNatClampNeg (0 : Int32).toNatClampNeg (5 : Int32).toNatClampNeg from (by first | rfl | (simp only [fa4 57 (by decide), ea2, sMn, sMx]; done) | (simp only [fa4 57 (by decide), ea2, sMn, sMx]; rfl))), (show a4 58 = mi_cpy (a 9) (a 58) (0 : Int32).toNatClampNeg (0 : Int32).toNatClampNeg (5 : Int32).toNatClampNeg from (by first | rfl | (simp only [ea4, fa2 9 (by decide), fa2 58 (by decide), sMn, sMx]; done) | (simp only [ea4, fa2 9 (by decide), fa2 58 (by decide), sMn, sMx]; rfl))), (show (i 450) = i 450 from (by first | rfl | (simp only [sMn, sMx]; done) | (simp only [sMn, sMx]; rfl)))⟩⟩)
noncomputable def yw33_50_1 : kW := ([3208, 3209, 3586], [51, 55, 57, 58, 63], [], [])
set_option maxRecDepth 100000 in
theorem ke33_50_1 {i : Nat → Int32} {a : Nat → List Int32} {q : Nat → List Int64} {r : Nat → Nat} (hI : kI i a q) (hr : kr r) (x2 : Int32) : km 3 33 [.ref 50, .ref 1, .int x2] (ks i a q r) (kVN yw33_50_1 i a q r (fun i1 a1 q1 r1 => (True) ∧ (a1 51 = mi_cpy (a 2) (a 51) (0 : Int32).toNatClampNeg (0 : Int32).toNatClampNeg (sMx 0 (sMn x2 8)).toNatClampNeg ∧ a1 55 = mi_cpy (a 6) (a 55) (0 : Int32).toNatClampNeg (0 : Int32).toNatClampNeg (sMx 0 (sMn x2 8)).toNatClampNeg ∧ a1 63 = mi_cpy (a 14) (a 63) (0 : Int32).toNatClampNeg (0 : Int32).toNatClampNeg (5 : Int32).toNatClampNeg ∧ i1 3208 = i 72 ∧ i1 3209 = i 73 ∧ a1 57 = mi_cpy (a 8) (a 57) (0 : Int32).toNatClampNeg (0 : Int32).toNatClampNeg (5 : Int32).toNatClampNeg ∧ a1 58 = mi_cpy (a 9) (a 58) (0 : Int32).toNatClampNeg (0 : Int32).toNatClampNeg (5 : Int32).toNatClampNeg ∧ i1 3586 = i 450))) := by
  have hG := kG_self yw33_50_1 hI hr
  refine km_ofN (q := (mi_h33, mi_c33)) rfl (by decide) (Nat.le_of_ble_eq_true rfl) ?_
  intro P hP
  refine fo_goL mi_k33 fz33_0_3_4 [(0, .ref 50), (1, .ref 1), (2, .int x2)] [.int 8, .int x2, .int 0] rfl ?_
  have m2 : (((bif decide (8 < x2) then 8 else x2).toInt ≤ x2.toInt) ∧ ((bif decide (8 < x2) then 8 else x2).toInt ≤ (8 : Int32).toInt)) ∧ ((bif decide (8 < x2) then 8 else x2).toInt = x2.toInt ∨ (bif decide (8 < x2) then 8 else x2).toInt = (8 : Int32).toInt) := kd_min
  refine ft_goS mi_k33 1 7 [.int (bif decide (8 < x2) then 8 else x2), .int 0] (by rfl) ?_
  generalize hm1 : (bif decide (8 < x2) then 8 else x2) = m1 at m2 ⊢
  have qm1 := hm1.symm
  have m4 : (((0 : Int32).toInt ≤ (bif decide (0 < m1) then m1 else 0).toInt) ∧ (m1.toInt ≤ (bif decide (0 < m1) then m1 else 0).toInt)) ∧ ((bif decide (0 < m1) then m1 else 0).toInt = (0 : Int32).toInt ∨ (bif decide (0 < m1) then m1 else 0).toInt = m1.toInt) := kd_max
  refine ft_goS mi_k33 1 10 [.int (bif decide (0 < m1) then m1 else 0)] (by rfl) ?_
  generalize hm3 : (bif decide (0 < m1) then m1 else 0) = m3 at m4 ⊢
  have qm3 := hm3.symm
  refine fo_goL mi_k33 fz33_10_8_22 [(3, .int m3), (0, .ref 50), (1, .ref 1), (2, .int x2)] [.int m3, .int 0, .ref 51, .int 0, .ref 2] rfl ?_
  refine ko_copyI3 mi_k33.1 (n := 8) (c := 8) (m := 8) (b := 8) (mi_k33.2 _ _ (by rfl)) (by rfl) (by rfl) (by rfl) (ksG2 _ _ _ _) (ksG51 _ _ _ _) (ksA51 _ _ _ _) (hG.I.2.1 2) rfl (hG.I.2.1 51) rfl (ow25 m4.1.1 kow0) (ow9 kow0) (ow9 kow0) (ow190 m2.1.2 m4.2 kow8 kow0) (ow190 m2.1.2 m4.2 kow8 kow0) ?_
  intro a6 ea6 fa6
  have hJ6 := kG_al3 hG 51 rfl ea6 fa6 (kcpy_len2 (n := 8) (c := 8) (m := 8) (b := 8) (sp := 0) (dp := 0) (n1 := m3) (hG.I.2.1 2) rfl (hG.I.2.1 51) rfl (ow25 m4.1.1 kow0) (ow9 kow0) (ow9 kow0) (ow190 m2.1.2 m4.2 kow8 kow0) (ow190 m2.1.2 m4.2 kow8 kow0)) (fun _ => kd_bd _)
  refine fo_goS mi_k33 fz33_25_7_36 [.int m3, .int 0, .ref 55, .int 0, .ref 6] rfl ?_
  refine ko_copyI3 mi_k33.1 (n := 8) (c := 8) (m := 8) (b := 8) (mi_k33.2 _ _ (by rfl)) (by rfl) (by rfl) (by rfl) (ksG6 _ _ _ _) (ksG55 _ _ _ _) (ksA55 _ _ _ _) (hJ6.I.2.1 6) rfl (hJ6.I.2.1 55) rfl (ow25 m4.1.1 kow0) (ow9 kow0) (ow9 kow0) (ow190 m2.1.2 m4.2 kow8 kow0) (ow190 m2.1.2 m4.2 kow8 kow0) ?_
  intro a8 ea8 fa8
  have hJ8 := kG_al3 hJ6 55 rfl ea8 fa8 (kcpy_len2 (n := 8) (c := 8) (m := 8) (b := 8) (sp := 0) (dp := 0) (n1 := m3) (hJ6.I.2.1 6) rfl (hJ6.I.2.1 55) rfl (ow25 m4.1.1 kow0) (ow9 kow0) (ow9 kow0) (ow190 m2.1.2 m4.2 kow8 kow0) (ow190 m2.1.2 m4.2 kow8 kow0)) (fun _ => kd_bd _)
  refine fo_goS mi_k33 fz33_39_7_50 [.int 5, .int 0, .ref 63, .int 0, .ref 14] rfl ?_
  refine ko_copyI3 mi_k33.1 (n := 5) (c := 5) (m := 5) (b := 5) (mi_k33.2 _ _ (by rfl)) (by rfl) (by rfl) (by rfl) (ksG14 _ _ _ _) (ksG63 _ _ _ _) (ksA63 _ _ _ _) (hJ8.I.2.1 14) rfl (hJ8.I.2.1 63) rfl (ow19 kow5) (ow9 kow0) (ow9 kow0) (ow191 kow0 kow5) (ow191 kow0 kow5) ?_
  intro a10 ea10 fa10
  have hJ10 := kG_al3 hJ8 63 rfl ea10 fa10 (kcpy_len2 (n := 5) (c := 5) (m := 5) (b := 5) (sp := 0) (dp := 0) (n1 := 5) (hJ8.I.2.1 14) rfl (hJ8.I.2.1 63) rfl (ow19 kow5) (ow9 kow0) (ow9 kow0) (ow191 kow0 kow5) (ow191 kow0 kow5)) (fun _ => kd_bd _)
  have hJ11 := kG_i hJ10 3208 rfl (v := (i 72)) (kd_bd _)
  have hJ12 := kG_i hJ11 3209 rfl (v := (i 73)) (kd_bd _)
  first | refine fo_goI mi_k33 fz33_53_12_77 [.ref 7, .ref 56] (ku (ku i 3208 (i 72)) 3209 (i 73)) (by rfl) ?_ | refine ft_go mi_k33 12 77 [(3, .int m3), (0, .ref 50), (1, .ref 1), (2, .int x2)] [.ref 7, .ref 56] (ku (ku i 3208 (i 72)) 3209 (i 73)) a10 q r (by rfl) ?_
  refine ko_callN mi_k33.1 (pc := 77) (ls := [(3, .int m3), (0, .ref 50), (1, .ref 1), (2, .int x2)]) (st := [.ref 7, .ref 56]) (h := ks (ku (ku i 3208 (i 72)) 3209 (i 73)) a10 q r) (i := (.invokevirtual 139, 3, 3, 0, 9, 0, 217)) (mi_k33.2 _ _ (by rfl)) (ft_invS mi_pq3 (by rfl)) (cy := mi_c3) mi_pq3 rfl (ke3_56_7 hJ12.I hJ12.R ) (by decide) ?_
  intro ig13 ag13 qg13 rg13 kg13 hg13
  have hGg13 := kG_call hJ12 kg13 (by decide +kernel)
  obtain ⟨hg13, og13⟩ := hg13
  have q14 : ag13 57 = mi_cpy (a10 8) (a10 57) (0 : Int32).toNatClampNeg (0 : Int32).toNatClampNeg (5 : Int32).toNatClampNeg := og13.1
  have q15 : ag13 58 = mi_cpy (a10 9) (a10 58) (0 : Int32).toNatClampNeg (0 : Int32).toNatClampNeg (5 : Int32).toNatClampNeg := og13.2.1
  have q16 : ig13 3586 = i 450 := og13.2.2
  exact ft_ret mi_k33 (by rfl) (hP  _ _ _ _ hGg13 ⟨trivial, ⟨(show ag13 51 = mi_cpy (a 2) (a 51) (0 : Int32).toNatClampNeg (0 : Int32).toNatClampNeg (sMx 0 (sMn x2 8)).toNatClampNeg from (by first | rfl | (simp only [kg13.fa 51 rfl, fa10 51 (by decide), fa8 51 (by decide), ea6, qm3, qm1, sMn, sMx]; done) | (simp only [kg13.fa 51 rfl, fa10 51 (by decide), fa8 51 (by decide), ea6, qm3, qm1, sMn, sMx]; rfl))), (show ag13 55 = mi_cpy (a 6) (a 55) (0 : Int32).toNatClampNeg (0 : Int32).toNatClampNeg (sMx 0 (sMn x2 8)).toNatClampNeg from (by first | rfl | (simp only [kg13.fa 55 rfl, fa10 55 (by decide), ea8, fa6 6 (by decide), fa6 55 (by decide), qm3, qm1, sMn, sMx]; done) | (simp only [kg13.fa 55 rfl, fa10 55 (by decide), ea8, fa6 6 (by decide), fa6 55 (by decide), qm3, qm1, sMn, sMx]; rfl))), (show ag13 63 = mi_cpy (a 14) (a 63) (0 : Int32).toNatClampNeg (0 : Int32).toNatClampNeg (5 : Int32).toNatClampNeg from (by first | rfl | (simp only [kg13.fa 63 rfl, ea10, fa8 14 (by decide), fa8 63 (by decide), fa6 63 (by decide), fa6 14 (by decide), sMn, sMx]; done) | (simp only [kg13.fa 63 rfl, ea10, fa8 14 (by decide), fa8 63 (by decide), fa6 63 (by decide), fa6 14 (by decide), sMn, sMx]; rfl))), (show ig13 3208 = i 72 from (by first | rfl | (simp only [(show ig13 3208 = (i 72) from kg13.fi 3208 rfl), sMn, sMx]; done) | (simp only [(show ig13 3208 = (i 72) from kg13.fi 3208 rfl), sMn, sMx]; rfl))), (show ig13 3209 = i 73 from (by first | rfl | (simp only [(show ig13 3209 = (i 73) from kg13.fi 3209 rfl), sMn, sMx]; done) | (simp only [(show ig13 3209 = (i 73) from kg13.fi 3209 rfl), sMn, sMx]; rfl))), (show ag13 57 = mi_cpy (a 8) (a 57) (0 : Int32).toNatClampNeg (0 : Int32).toNatClampNeg (5 : Int32).toNatClampNeg from (by first | rfl | (simp only [q14, fa10 8 (by decide), fa10 57 (by decide), fa8 57 (by decide), fa6 57 (by decide), fa8 8 (by decide), fa6 8 (by decide), sMn, sMx]; done) | (simp only [q14, fa10 8 (by decide), fa10 57 (by decide), fa8 57 (by decide), fa6 57 (by decide), fa8 8 (by decide), fa6 8 (by decide), sMn, sMx]; rfl))), (show ag13 58 = mi_cpy (a 9) (a 58) (0 : Int32).toNatClampNeg (0 : Int32).toNatClampNeg (5 : Int32).toNatClampNeg from (by first | rfl | (simp only [q15, fa10 9 (by decide), fa10 58 (by decide), fa8 58 (by decide), fa6 58 (by decide), fa8 9 (by decide), fa6 9 (by decide), sMn, sMx]; done) | (simp only [q15, fa10 9 (by decide), fa10 58 (by decide), fa8 58 (by decide), fa6 58 (by decide), fa8 9 (by decide), fa6 9 (by decide), sMn, sMx]; rfl))), (show ig13 3586 = i 450 from (by first | rfl | (simp only [q16, sMn, sMx]; done) | (simp only [q16, sMn, sMx]; rfl)))⟩⟩)
noncomputable def yw34_50_1 : kW := ([3200, 3206, 3207, 3208, 3209, 3586], [51, 52, 53, 54, 55, 57, 58, 63, 65, 66, 67, 68, 69, 70, 71, 72], [], [1])
noncomputable def yw34_50_1_L86 : kW := ([], [63], [], [])
noncomputable def yw34_50_1_L106 : kW := ([], [65, 66, 67, 68, 69, 70, 71, 72], [], [])
noncomputable def yw34_50_1_L114 : kW := ([], [65, 66, 67, 68, 69, 70, 71, 72], [], [])
set_option maxRecDepth 100000 in
theorem ke34_50_1 {i : Nat → Int32} {a : Nat → List Int32} {q : Nat → List Int64} {r : Nat → Nat} (hI : kI i a q) (hr : kr r)  : km 5 34 [.ref 50, .ref 1] (ks i a q r) (kVN yw34_50_1 i a q r (fun i1 a1 q1 r1 => (True) ∧ ((a1 51 = mi_cpy (a 2) (a 51) (0 : Int32).toNatClampNeg (0 : Int32).toNatClampNeg (sMx 0 (sMn 8 8)).toNatClampNeg ∧ a1 55 = mi_cpy (a 6) (a 55) (0 : Int32).toNatClampNeg (0 : Int32).toNatClampNeg (sMx 0 (sMn 8 8)).toNatClampNeg ∧ a1 63 = List.replicate 5 0 ∧ i1 3208 = i 72 ∧ i1 3209 = i 73 ∧ a1 57 = mi_cpy (a 8) (a 57) (0 : Int32).toNatClampNeg (0 : Int32).toNatClampNeg (5 : Int32).toNatClampNeg ∧ a1 58 = mi_cpy (a 9) (a 58) (0 : Int32).toNatClampNeg (0 : Int32).toNatClampNeg (5 : Int32).toNatClampNeg ∧ i1 3586 = i 450 ∧ i1 3200 = i 64 ∧ a1 52 = mi_cpy (a 3) (a 52) (0 : Int32).toNatClampNeg (0 : Int32).toNatClampNeg (8 : Int32).toNatClampNeg ∧ a1 53 = mi_cpy (a 4) (a 53) (0 : Int32).toNatClampNeg (0 : Int32).toNatClampNeg (8 : Int32).toNatClampNeg ∧ a1 54 = mi_cpy (a 5) (a 54) (0 : Int32).toNatClampNeg (0 : Int32).toNatClampNeg (8 : Int32).toNatClampNeg ∧ i1 3206 = i 70 ∧ i1 3207 = i 71) ∧ (kZ8 a1 ∧ r1 1 = r 0)))) := by
  have hG := kG_self yw34_50_1 hI hr
  refine km_ofN (q := (mi_h34, mi_c34)) rfl (by decide) (Nat.le_of_ble_eq_true rfl) ?_
  intro P hP
  refine fo_goL mi_k34 fz34_0_3_4 [(0, .ref 50), (1, .ref 1)] [.int 8, .ref 1, .ref 50] rfl ?_
  refine ko_callN mi_k34.1 (pc := 4) (ls := [(0, .ref 50), (1, .ref 1)]) (st := [.int 8, .ref 1, .ref 50]) (h := ks i a q r) (i := (.invokevirtual 143, 3, 33, 0, 9, 0, 213)) (mi_k34.2 _ _ (by rfl)) (ft_invS mi_pq33 (by rfl)) (cy := mi_c33) mi_pq33 rfl (ke33_50_1 hG.I hG.R 8) (by decide) ?_
  intro ig1 ag1 qg1 rg1 kg1 hg1
  have hGg1 := kG_call hG kg1 (by decide +kernel)
  obtain ⟨hg1, og1⟩ := hg1
  have q2 : ag1 51 = mi_cpy (a 2) (a 51) (0 : Int32).toNatClampNeg (0 : Int32).toNatClampNeg (sMx 0 (sMn (8 : Int32) 8)).toNatClampNeg := og1.1
  have q3 : ag1 55 = mi_cpy (a 6) (a 55) (0 : Int32).toNatClampNeg (0 : Int32).toNatClampNeg (sMx 0 (sMn (8 : Int32) 8)).toNatClampNeg := og1.2.1
  have q4 : ag1 63 = mi_cpy (a 14) (a 63) (0 : Int32).toNatClampNeg (0 : Int32).toNatClampNeg (5 : Int32).toNatClampNeg := og1.2.2.1
  have q5 : ig1 3208 = i 72 := og1.2.2.2.1
  have q6 : ig1 3209 = i 73 := og1.2.2.2.2.1
  have q7 : ag1 57 = mi_cpy (a 8) (a 57) (0 : Int32).toNatClampNeg (0 : Int32).toNatClampNeg (5 : Int32).toNatClampNeg := og1.2.2.2.2.2.1
  have q8 : ag1 58 = mi_cpy (a 9) (a 58) (0 : Int32).toNatClampNeg (0 : Int32).toNatClampNeg (5 : Int32).toNatClampNeg := og1.2.2.2.2.2.2.1
  have q9 : ig1 3586 = i 450 := og1.2.2.2.2.2.2.2
  have fig1_64 : ((0 : Int) ≤ (ig1 64).toInt) ∧ ((ig1 64).toInt ≤ 8) := hGg1.I.1 64
  have fi_64 : ((0 : Int) ≤ (i 64).toInt) ∧ ((i 64).toInt ≤ 8) := hG.I.1 64
  have efig1_64 : (ig1 64).toInt = (i 64).toInt := kg1.ti 64 rfl
  have hJ10 := kG_i hGg1 3200 rfl (v := (ig1 64)) ⟨(ow4 fig1_64.1), (ow193 fig1_64.2)⟩
  first | refine fo_goI mi_k34 fz34_7_11_27 [.int 8, .int 0, .ref 52, .int 0, .ref 3] (ku ig1 3200 (ig1 64)) (by rfl) ?_ | refine ft_go mi_k34 11 27 [(0, .ref 50), (1, .ref 1)] [.int 8, .int 0, .ref 52, .int 0, .ref 3] (ku ig1 3200 (ig1 64)) ag1 qg1 rg1 (by rfl) ?_ | refine ko_steps mi_in34 11 _ (27, [(0, .ref 50), (1, .ref 1)], [.int 8, .int 0, .ref 52, .int 0, .ref 3], (0, 0), ks (ku ig1 3200 (ig1 64)) ag1 qg1 rg1) (by rfl) ?_
  refine ko_copyI3 mi_k34.1 (n := 8) (c := 8) (m := 8) (b := 8) (mi_k34.2 _ _ (by rfl)) (by rfl) (by rfl) (by rfl) (ksG3 _ _ _ _) (ksG52 _ _ _ _) (ksA52 _ _ _ _) (hJ10.I.2.1 3) rfl (hJ10.I.2.1 52) rfl (ow194 kow8) (ow9 kow0) (ow9 kow0) (ow195 kow0 kow8) (ow195 kow0 kow8) ?_
  intro a12 ea12 fa12
  have hJ12 := kG_al3 hJ10 52 rfl ea12 fa12 (kcpy_len2 (n := 8) (c := 8) (m := 8) (b := 8) (sp := 0) (dp := 0) (n1 := 8) (hJ10.I.2.1 3) rfl (hJ10.I.2.1 52) rfl (ow194 kow8) (ow9 kow0) (ow9 kow0) (ow195 kow0 kow8) (ow195 kow0 kow8)) (fun _ => kd_bd _)
  refine fo_goS mi_k34 fz34_30_7_42 [.int 8, .int 0, .ref 53, .int 0, .ref 4] rfl ?_
  refine ko_copyI3 mi_k34.1 (n := 8) (c := 8) (m := 8) (b := 8) (mi_k34.2 _ _ (by rfl)) (by rfl) (by rfl) (by rfl) (ksG4 _ _ _ _) (ksG53 _ _ _ _) (ksA53 _ _ _ _) (hJ12.I.2.1 4) rfl (hJ12.I.2.1 53) rfl (ow194 kow8) (ow9 kow0) (ow9 kow0) (ow195 kow0 kow8) (ow195 kow0 kow8) ?_
  intro a14 ea14 fa14
  have hJ14 := kG_al3 hJ12 53 rfl ea14 fa14 (kcpy_len2 (n := 8) (c := 8) (m := 8) (b := 8) (sp := 0) (dp := 0) (n1 := 8) (hJ12.I.2.1 4) rfl (hJ12.I.2.1 53) rfl (ow194 kow8) (ow9 kow0) (ow9 kow0) (ow195 kow0 kow8) (ow195 kow0 kow8)) (fun _ => kd_bd _)
  refine fo_goS mi_k34 fz34_45_7_57 [.int 8, .int 0, .ref 54, .int 0, .ref 5] rfl ?_
  refine ko_copyI3 mi_k34.1 (n := 8) (c := 8) (m := 8) (b := 8) (mi_k34.2 _ _ (by rfl)) (by rfl) (by rfl) (by rfl) (ksG5 _ _ _ _) (ksG54 _ _ _ _) (ksA54 _ _ _ _) (hJ14.I.2.1 5) rfl (hJ14.I.2.1 54) rfl (ow194 kow8) (ow9 kow0) (ow9 kow0) (ow195 kow0 kow8) (ow195 kow0 kow8) ?_
  intro a16 ea16 fa16
  have hJ16 := kG_al3 hJ14 54 rfl ea16 fa16 (kcpy_len2 (n := 8) (c := 8) (m := 8) (b := 8) (sp := 0) (dp := 0) (n1 := 8) (hJ14.I.2.1 5) rfl (hJ14.I.2.1 54) rfl (ow194 kow8) (ow9 kow0) (ow9 kow0) (ow195 kow0 kow8) (ow195 kow0 kow8)) (fun _ => kd_bd _)
  have efig1_70 : (ig1 70).toInt = (i 70).toInt := kg1.ti 70 rfl
  have hJ17 := kG_i hJ16 3206 rfl (v := (ig1 70)) (kd_bd _)
  have efig1_71 : (ig1 71).toInt = (i 71).toInt := kg1.ti 71 rfl
  have hJ18 := kG_i hJ17 3207 rfl (v := (ig1 71)) (kd_bd _)
  first | refine fo_goI mi_k34 fz34_60_11_81 [.ref (rg1 0), .ref 50] (ku (ku (ku ig1 3200 (ig1 64)) 3206 (ig1 70)) 3207 (ig1 71)) (by rfl) ?_ | refine ft_go mi_k34 11 81 [(0, .ref 50), (1, .ref 1)] [.ref (rg1 0), .ref 50] (ku (ku (ku ig1 3200 (ig1 64)) 3206 (ig1 70)) 3207 (ig1 71)) a16 qg1 rg1 (by rfl) ?_ | refine ko_steps mi_in34 11 _ (81, [(0, .ref 50), (1, .ref 1)], [.ref (rg1 0), .ref 50], (0, 0), ks (ku (ku (ku ig1 3200 (ig1 64)) 3206 (ig1 70)) 3207 (ig1 71)) a16 qg1 rg1) (by rfl) ?_
  rcases hJ18.R.1 with ⟨eRrg1_0, eRrg1_2⟩ | ⟨eRrg1_0, eRrg1_2⟩
  ·
    have eRrg1_0 : rg1 0 = 10 := eRrg1_0
    have eRrg1_2 : rg1 2 = 100 := eRrg1_2
    refine ko_eq (x1 := (81, [(0, .ref 50), (1, .ref 1)], [.ref 10, .ref 50], (0, 0), ks (ku (ku (ku ig1 3200 (ig1 64)) 3206 (ig1 70)) 3207 (ig1 71)) a16 qg1 rg1)) (by rw [eRrg1_0]) ?_
    have hJ19 := kG_r hJ18 1 rfl (v := 10) ⟨hJ18.R.1, by first | exact Or.inl rfl | exact Or.inr (Or.inl rfl) | exact Or.inr (Or.inr rfl)⟩
    refine ko_steps mi_in34 3 _ (86, [(2, .int 0), (0, .ref 50), (1, .ref 1)], [], (0, 0), ks (ku (ku (ku ig1 3200 (ig1 64)) 3206 (ig1 70)) 3207 (ig1 71)) a16 qg1 (ku rg1 1 10)) (by rfl) ?_
    have lp20 : ∀ (nz : Nat) (i20 : Nat → Int32) (a20 : Nat → List Int32) (q20 : Nat → List Int64) (r20 : Nat → Nat) (l2_20 : Int32), kG yw34_50_1_L86 (ku (ku (ku ig1 3200 (ig1 64)) 3206 (ig1 70)) 3207 (ig1 71)) a16 qg1 (ku rg1 1 10) i20 a20 q20 r20 → (0 : Int) ≤ l2_20.toInt → kZr (a20 63) l2_20.toInt → ((5 - l2_20.toInt)).toNat < nz → ko 5 (mi_h34, mi_c34) P (86, [(2, .int l2_20), (0, .ref 50), (1, .ref 1)], [], (0, 0), ks i20 a20 q20 r20) := by
      intro nz
      induction nz with
      | zero =>
        intro _ _ _ _ _ _ _ _ hm
        exact absurd hm (Nat.not_lt_zero _)
      | succ nz ih20 =>
        intro i20 a20 q20 r20 l2_20 hL20 p20_0 O20_0 hm20
        refine fo_goL mi_k34 fz34_86_2_88 [(2, .int l2_20), (0, .ref 50), (1, .ref 1)] [.int 4, .int l2_20] rfl ?_
        refine ft_ifS mi_k34 (decide (4 < l2_20)) 104 91 [] (by rfl) (fun c => ?_) (fun c => ?_)
        ·
          have c21 : (4 : Int32).toInt < l2_20.toInt := kd_lt c; clear c
          have hG22 := kG_call hJ19 hL20 (by decide +kernel)
          have qz23 : a20 63 = List.replicate 5 0 := kZr_end O20_0 (hG22.I.2.1 63) (ow196 c21 kow4)
          first | refine fo_goL mi_k34 fz34_104_2_106 [(2, .int 0), (0, .ref 50), (1, .ref 1)] [] (by rfl) ?_ | refine fo_goL mi_k34 fz34_135_2_106 [(2, .int 0), (0, .ref 50), (1, .ref 1)] [] (by rfl) ?_
          have lp24 : ∀ (nz : Nat) (i24 : Nat → Int32) (a24 : Nat → List Int32) (q24 : Nat → List Int64) (r24 : Nat → Nat) (l2_24 : Int32), kG yw34_50_1_L106 i20 a20 q20 r20 i24 a24 q24 r24 → (0 : Int) ≤ l2_24.toInt → kFz a24 (8 * l2_24.toInt) → ((8 - l2_24.toInt)).toNat < nz → ko 5 (mi_h34, mi_c34) P (106, [(2, .int l2_24), (0, .ref 50), (1, .ref 1)], [], (0, 0), ks i24 a24 q24 r24) := by
            intro nz
            induction nz with
            | zero =>
              intro _ _ _ _ _ _ _ _ hm
              exact absurd hm (Nat.not_lt_zero _)
            | succ nz ih24 =>
              intro i24 a24 q24 r24 l2_24 hL24 p24_0 O24_0 hm24
              refine fo_goL mi_k34 fz34_106_2_109 [(2, .int l2_24), (0, .ref 50), (1, .ref 1)] [.int 8, .int l2_24] rfl ?_
              refine ft_ifS mi_k34 (decide (8 ≤ l2_24)) 141 112 [] (by rfl) (fun c => ?_) (fun c => ?_)
              ·
                have c25 : (8 : Int32).toInt ≤ l2_24.toInt := kd_le c; clear c
                have hG26 := kG_call hG22 hL24 (by decide +kernel)
                exact ft_ret mi_k34 (by rfl) (hP  _ _ _ _ hG26 ⟨trivial, ⟨⟨(show a24 51 = mi_cpy (a 2) (a 51) (0 : Int32).toNatClampNeg (0 : Int32).toNatClampNeg (sMx 0 (sMn 8 8)).toNatClampNeg from (by first | rfl | (simp only [hL24.fa 51 rfl, hL20.fa 51 rfl, fa16 51 (by decide), fa14 51 (by decide), fa12 51 (by decide), q2, sMn, sMx]; done) | (simp only [hL24.fa 51 rfl, hL20.fa 51 rfl, fa16 51 (by decide), fa14 51 (by decide), fa12 51 (by decide), q2, sMn, sMx]; rfl))), (show a24 55 = mi_cpy (a 6) (a 55) (0 : Int32).toNatClampNeg (0 : Int32).toNatClampNeg (sMx 0 (sMn 8 8)).toNatClampNeg from (by first | rfl | (simp only [hL24.fa 55 rfl, hL20.fa 55 rfl, fa16 55 (by decide), fa14 55 (by decide), fa12 55 (by decide), q3, sMn, sMx]; done) | (simp only [hL24.fa 55 rfl, hL20.fa 55 rfl, fa16 55 (by decide), fa14 55 (by decide), fa12 55 (by decide), q3, sMn, sMx]; rfl))), (show a24 63 = List.replicate 5 0 from (by first | rfl | (simp only [hL24.fa 63 rfl, qz23, sMn, sMx]; done) | (simp only [hL24.fa 63 rfl, qz23, sMn, sMx]; rfl))), (show i24 3208 = i 72 from (by first | rfl | (simp only [(show i24 3208 = i20 3208 from hL24.fi 3208 rfl), (show i20 3208 = ig1 3208 from hL20.fi 3208 rfl), q5, sMn, sMx]; done) | (simp only [(show i24 3208 = i20 3208 from hL24.fi 3208 rfl), (show i20 3208 = ig1 3208 from hL20.fi 3208 rfl), q5, sMn, sMx]; rfl))), (show i24 3209 = i 73 from (by first | rfl | (simp only [(show i24 3209 = i20 3209 from hL24.fi 3209 rfl), (show i20 3209 = ig1 3209 from hL20.fi 3209 rfl), q6, sMn, sMx]; done) | (simp only [(show i24 3209 = i20 3209 from hL24.fi 3209 rfl), (show i20 3209 = ig1 3209 from hL20.fi 3209 rfl), q6, sMn, sMx]; rfl))), (show a24 57 = mi_cpy (a 8) (a 57) (0 : Int32).toNatClampNeg (0 : Int32).toNatClampNeg (5 : Int32).toNatClampNeg from (by first | rfl | (simp only [hL24.fa 57 rfl, hL20.fa 57 rfl, fa16 57 (by decide), fa14 57 (by decide), fa12 57 (by decide), q7, sMn, sMx]; done) | (simp only [hL24.fa 57 rfl, hL20.fa 57 rfl, fa16 57 (by decide), fa14 57 (by decide), fa12 57 (by decide), q7, sMn, sMx]; rfl))), (show a24 58 = mi_cpy (a 9) (a 58) (0 : Int32).toNatClampNeg (0 : Int32).toNatClampNeg (5 : Int32).toNatClampNeg from (by first | rfl | (simp only [hL24.fa 58 rfl, hL20.fa 58 rfl, fa16 58 (by decide), fa14 58 (by decide), fa12 58 (by decide), q8, sMn, sMx]; done) | (simp only [hL24.fa 58 rfl, hL20.fa 58 rfl, fa16 58 (by decide), fa14 58 (by decide), fa12 58 (by decide), q8, sMn, sMx]; rfl))), (show i24 3586 = i 450 from (by first | rfl | (simp only [(show i24 3586 = i20 3586 from hL24.fi 3586 rfl), (show i20 3586 = ig1 3586 from hL20.fi 3586 rfl), q9, sMn, sMx]; done) | (simp only [(show i24 3586 = i20 3586 from hL24.fi 3586 rfl), (show i20 3586 = ig1 3586 from hL20.fi 3586 rfl), q9, sMn, sMx]; rfl))), (show i24 3200 = i 64 from (by first | rfl | (simp only [(show i24 3200 = i20 3200 from hL24.fi 3200 rfl), (show i20 3200 = (ig1 64) from hL20.fi 3200 rfl), (show ig1 64 = i 64 from kg1.fi 64 rfl), sMn, sMx]; done) | (simp only [(show i24 3200 = i20 3200 from hL24.fi 3200 rfl), (show i20 3200 = (ig1 64) from hL20.fi 3200 rfl), (show ig1 64 = i 64 from kg1.fi 64 rfl), sMn, sMx]; rfl))), (show a24 52 = mi_cpy (a 3) (a 52) (0 : Int32).toNatClampNeg (0 : Int32).toNatClampNeg (8 : Int32).toNatClampNeg from (by first | rfl | (simp only [hL24.fa 52 rfl, hL20.fa 52 rfl, fa16 52 (by decide), fa14 52 (by decide), ea12, kg1.fa 3 rfl, kg1.fa 52 rfl, sMn, sMx]; done) | (simp only [hL24.fa 52 rfl, hL20.fa 52 rfl, fa16 52 (by decide), fa14 52 (by decide), ea12, kg1.fa 3 rfl, kg1.fa 52 rfl, sMn, sMx]; rfl))), (show a24 53 = mi_cpy (a 4) (a 53) (0 : Int32).toNatClampNeg (0 : Int32).toNatClampNeg (8 : Int32).toNatClampNeg from (by first | rfl | (simp only [hL24.fa 53 rfl, hL20.fa 53 rfl, fa16 53 (by decide), ea14, fa12 4 (by decide), fa12 53 (by decide), kg1.fa 53 rfl, kg1.fa 4 rfl, sMn, sMx]; done) | (simp only [hL24.fa 53 rfl, hL20.fa 53 rfl, fa16 53 (by decide), ea14, fa12 4 (by decide), fa12 53 (by decide), kg1.fa 53 rfl, kg1.fa 4 rfl, sMn, sMx]; rfl))), (show a24 54 = mi_cpy (a 5) (a 54) (0 : Int32).toNatClampNeg (0 : Int32).toNatClampNeg (8 : Int32).toNatClampNeg from (by first | rfl | (simp only [hL24.fa 54 rfl, hL20.fa 54 rfl, ea16, fa14 5 (by decide), fa14 54 (by decide), fa12 54 (by decide), kg1.fa 54 rfl, fa12 5 (by decide), kg1.fa 5 rfl, sMn, sMx]; done) | (simp only [hL24.fa 54 rfl, hL20.fa 54 rfl, ea16, fa14 5 (by decide), fa14 54 (by decide), fa12 54 (by decide), kg1.fa 54 rfl, fa12 5 (by decide), kg1.fa 5 rfl, sMn, sMx]; rfl))), (show i24 3206 = i 70 from (by first | rfl | (simp only [(show i24 3206 = i20 3206 from hL24.fi 3206 rfl), (show i20 3206 = (ig1 70) from hL20.fi 3206 rfl), (show ig1 70 = i 70 from kg1.fi 70 rfl), sMn, sMx]; done) | (simp only [(show i24 3206 = i20 3206 from hL24.fi 3206 rfl), (show i20 3206 = (ig1 70) from hL20.fi 3206 rfl), (show ig1 70 = i 70 from kg1.fi 70 rfl), sMn, sMx]; rfl))), (show i24 3207 = i 71 from (by first | rfl | (simp only [(show i24 3207 = i20 3207 from hL24.fi 3207 rfl), (show i20 3207 = (ig1 71) from hL20.fi 3207 rfl), (show ig1 71 = i 71 from kg1.fi 71 rfl), sMn, sMx]; done) | (simp only [(show i24 3207 = i20 3207 from hL24.fi 3207 rfl), (show i20 3207 = (ig1 71) from hL20.fi 3207 rfl), (show ig1 71 = i 71 from kg1.fi 71 rfl), sMn, sMx]; rfl)))⟩, ⟨kFz_all O24_0 (ow197 c25 kow8) (kl_65 hG26.I), ((hL24.fr 1 rfl).trans ((hL20.fr 1 rfl).trans (show (ku rg1 1 10) 1 = 10 from rfl))).trans ((eRrg1_0.symm).trans (kg1.fr 0 rfl))⟩⟩⟩)
              ·
                have c27 : l2_24.toInt < (8 : Int32).toInt := kd_leF c; clear c
                first | refine fo_goL mi_k34 fz34_112_2_114 [(3, .int 0), (2, .int l2_24), (0, .ref 50), (1, .ref 1)] [] (by rfl) ?_ | refine fo_goL mi_k34 fz34_129_2_114 [(3, .int 0), (2, .int l2_24), (0, .ref 50), (1, .ref 1)] [] (by rfl) ?_
                have lp28 : ∀ (nz : Nat) (i28 : Nat → Int32) (a28 : Nat → List Int32) (q28 : Nat → List Int64) (r28 : Nat → Nat) (l3_28 : Int32), kG yw34_50_1_L114 i24 a24 q24 r24 i28 a28 q28 r28 → ((0 : Int) ≤ l2_24.toInt) ∧ (l2_24.toInt ≤ 7) → (0 : Int) ≤ l3_28.toInt → kFz a28 (8 * l2_24.toInt + l3_28.toInt) → ((8 - l3_28.toInt)).toNat < nz → ko 5 (mi_h34, mi_c34) P (114, [(3, .int l3_28), (2, .int l2_24), (0, .ref 50), (1, .ref 1)], [], (0, 0), ks i28 a28 q28 r28) := by
                  intro nz
                  induction nz with
                  | zero =>
                    intro _ _ _ _ _ _ _ _ _ hm
                    exact absurd hm (Nat.not_lt_zero _)
                  | succ nz ih28 =>
                    intro i28 a28 q28 r28 l3_28 hL28 p28_0 p28_1 O28_0 hm28
                    refine fo_goL mi_k34 fz34_114_2_117 [(3, .int l3_28), (2, .int l2_24), (0, .ref 50), (1, .ref 1)] [.int 8, .int l3_28] rfl ?_
                    refine ft_ifS mi_k34 (decide (8 ≤ l3_28)) 135 120 [] (by rfl) (fun c => ?_) (fun c => ?_)
                    ·
                      have c29 : (8 : Int32).toInt ≤ l3_28.toInt := kd_le c; clear c
                      have hG30 := kG_call hL24 hL28 (by decide +kernel)
                      have s31 : (l2_24 + 1).toInt = l2_24.toInt + (1 : Int32).toInt := kd_add (ow32 p24_0 kow1) (ow198 c27 kow8 kow1)
                      first | refine fo_goL mi_k34 fz34_104_2_106 [(2, .int (l2_24 + 1)), (3, .int l3_28), (0, .ref 50), (1, .ref 1)] [] (by rfl) ?_ | refine fo_goL mi_k34 fz34_135_2_106 [(2, .int (l2_24 + 1)), (3, .int l3_28), (0, .ref 50), (1, .ref 1)] [] (by rfl) ?_
                      refine ko_perm [(2, .int (l2_24 + 1)), (0, .ref 50), (1, .ref 1)] (List.forall_mem_cons.mpr ⟨(List.Mem.head _), (List.forall_mem_cons.mpr ⟨(List.Mem.tail _ (List.Mem.tail _ (List.Mem.head _))), (List.forall_mem_cons.mpr ⟨(List.Mem.tail _ (List.Mem.tail _ (List.Mem.tail _ (List.Mem.head _)))), (fun _ h => absurd h List.not_mem_nil)⟩)⟩)⟩) ?_
                      exact ih24 _ _ _ _ _ hG30 (ow34 p24_0 s31 kow1) (kFz_le O28_0 (ow199 c29 s31 kow8 kow1)) (kj_meas (ow200 s31 kow1) (ow201 c27 kow8) hm24)
                    ·
                      have c32 : l3_28.toInt < (8 : Int32).toInt := kd_leF c; clear c
                      refine fo_goS mi_k34 fz34_120_3_125 [.int l2_24, .ref 64] rfl ?_
                      by_cases w33 : l2_24.toInt = 0
                      ·
                        refine ft_alx mi_k34 (pc := 125) (v := 0) (p := 64) (z := 65) (kj_eq w33 (by decide) : l2_24 = 0) (by decide +kernel) (by decide +kernel) ?_
                        refine fo_goS mi_k34 fz34_126_2_128 [.int 0, .int l3_28, .ref 65] rfl ?_
                        refine ko_iast3 mi_k34.1 (n := 8) (c := 8) (ax := (0, 0, 0, 0, 0)) (mi_k34.2 _ _ (by rfl)) (by rfl) (ksG65 _ _ _ _) (ksA65 _ _ _ _) (hL28.I.2.1 65) rfl (ow4 p28_1) (ow203 c32 kow8) ?_
                        intro a34 ea34 fa34
                        have hJ34 := kG_a3 hL28 65 rfl ea34 fa34 (kd_bd _)
                        have s35 : (l3_28 + 1).toInt = l3_28.toInt + (1 : Int32).toInt := kd_add (ow32 p28_1 kow1) (ow198 c32 kow8 kow1)
                        first | refine fo_goL mi_k34 fz34_112_2_114 [(3, .int (l3_28 + 1)), (2, .int l2_24), (0, .ref 50), (1, .ref 1)] [] (by rfl) ?_ | refine fo_goL mi_k34 fz34_129_2_114 [(3, .int (l3_28 + 1)), (2, .int l2_24), (0, .ref 50), (1, .ref 1)] [] (by rfl) ?_
                        exact ih28 _ _ _ _ _ hJ34 (ow204 c27 p24_0 kow8) (ow34 p28_1 s35 kow1) (kFz_step (m := 0) O28_0 (hL28.I.2.1 65) rfl (ow205 p24_0 w33) (ow4 p28_1) (ow203 c32 kow8) (ow40 s35 kow1) ea34 fa34) (kj_meas (ow200 s35 kow1) (ow201 c32 kow8) hm28)
                      by_cases w36 : l2_24.toInt = 1
                      ·
                        refine ft_alx mi_k34 (pc := 125) (v := 1) (p := 64) (z := 66) (kj_eq w36 (by decide) : l2_24 = 1) (by decide +kernel) (by decide +kernel) ?_
                        refine fo_goS mi_k34 fz34_126_2_128 [.int 0, .int l3_28, .ref 66] rfl ?_
                        refine ko_iast3 mi_k34.1 (n := 8) (c := 8) (ax := (0, 0, 0, 0, 0)) (mi_k34.2 _ _ (by rfl)) (by rfl) (ksG66 _ _ _ _) (ksA66 _ _ _ _) (hL28.I.2.1 66) rfl (ow4 p28_1) (ow203 c32 kow8) ?_
                        intro a37 ea37 fa37
                        have hJ37 := kG_a3 hL28 66 rfl ea37 fa37 (kd_bd _)
                        have s38 : (l3_28 + 1).toInt = l3_28.toInt + (1 : Int32).toInt := kd_add (ow32 p28_1 kow1) (ow198 c32 kow8 kow1)
                        first | refine fo_goL mi_k34 fz34_112_2_114 [(3, .int (l3_28 + 1)), (2, .int l2_24), (0, .ref 50), (1, .ref 1)] [] (by rfl) ?_ | refine fo_goL mi_k34 fz34_129_2_114 [(3, .int (l3_28 + 1)), (2, .int l2_24), (0, .ref 50), (1, .ref 1)] [] (by rfl) ?_
                        exact ih28 _ _ _ _ _ hJ37 (ow206 c27 w36 kow8) (ow34 p28_1 s38 kow1) (kFz_step (m := 1) O28_0 (hL28.I.2.1 66) rfl (ow106 w36) (ow4 p28_1) (ow203 c32 kow8) (ow40 s38 kow1) ea37 fa37) (kj_meas (ow200 s38 kow1) (ow201 c32 kow8) hm28)
                      by_cases w39 : l2_24.toInt = 2
                      ·
                        refine ft_alx mi_k34 (pc := 125) (v := 2) (p := 64) (z := 67) (kj_eq w39 (by decide) : l2_24 = 2) (by decide +kernel) (by decide +kernel) ?_
                        refine fo_goS mi_k34 fz34_126_2_128 [.int 0, .int l3_28, .ref 67] rfl ?_
                        refine ko_iast3 mi_k34.1 (n := 8) (c := 8) (ax := (0, 0, 0, 0, 0)) (mi_k34.2 _ _ (by rfl)) (by rfl) (ksG67 _ _ _ _) (ksA67 _ _ _ _) (hL28.I.2.1 67) rfl (ow4 p28_1) (ow203 c32 kow8) ?_
                        intro a40 ea40 fa40
                        have hJ40 := kG_a3 hL28 67 rfl ea40 fa40 (kd_bd _)
                        have s41 : (l3_28 + 1).toInt = l3_28.toInt + (1 : Int32).toInt := kd_add (ow32 p28_1 kow1) (ow198 c32 kow8 kow1)
                        first | refine fo_goL mi_k34 fz34_112_2_114 [(3, .int (l3_28 + 1)), (2, .int l2_24), (0, .ref 50), (1, .ref 1)] [] (by rfl) ?_ | refine fo_goL mi_k34 fz34_129_2_114 [(3, .int (l3_28 + 1)), (2, .int l2_24), (0, .ref 50), (1, .ref 1)] [] (by rfl) ?_
                        exact ih28 _ _ _ _ _ hJ40 (ow207 c27 w39 kow8) (ow34 p28_1 s41 kow1) (kFz_step (m := 2) O28_0 (hL28.I.2.1 67) rfl (ow117 w39) (ow4 p28_1) (ow203 c32 kow8) (ow40 s41 kow1) ea40 fa40) (kj_meas (ow200 s41 kow1) (ow201 c32 kow8) hm28)
                      by_cases w42 : l2_24.toInt = 3
                      ·
                        refine ft_alx mi_k34 (pc := 125) (v := 3) (p := 64) (z := 68) (kj_eq w42 (by decide) : l2_24 = 3) (by decide +kernel) (by decide +kernel) ?_
                        refine fo_goS mi_k34 fz34_126_2_128 [.int 0, .int l3_28, .ref 68] rfl ?_
                        refine ko_iast3 mi_k34.1 (n := 8) (c := 8) (ax := (0, 0, 0, 0, 0)) (mi_k34.2 _ _ (by rfl)) (by rfl) (ksG68 _ _ _ _) (ksA68 _ _ _ _) (hL28.I.2.1 68) rfl (ow4 p28_1) (ow203 c32 kow8) ?_
                        intro a43 ea43 fa43
                        have hJ43 := kG_a3 hL28 68 rfl ea43 fa43 (kd_bd _)
                        have s44 : (l3_28 + 1).toInt = l3_28.toInt + (1 : Int32).toInt := kd_add (ow32 p28_1 kow1) (ow198 c32 kow8 kow1)
                        first | refine fo_goL mi_k34 fz34_112_2_114 [(3, .int (l3_28 + 1)), (2, .int l2_24), (0, .ref 50), (1, .ref 1)] [] (by rfl) ?_ | refine fo_goL mi_k34 fz34_129_2_114 [(3, .int (l3_28 + 1)), (2, .int l2_24), (0, .ref 50), (1, .ref 1)] [] (by rfl) ?_
                        exact ih28 _ _ _ _ _ hJ43 (ow208 c27 w42 kow8) (ow34 p28_1 s44 kow1) (kFz_step (m := 3) O28_0 (hL28.I.2.1 68) rfl (ow128 w42) (ow4 p28_1) (ow203 c32 kow8) (ow40 s44 kow1) ea43 fa43) (kj_meas (ow200 s44 kow1) (ow201 c32 kow8) hm28)
                      by_cases w45 : l2_24.toInt = 4
                      ·
                        refine ft_alx mi_k34 (pc := 125) (v := 4) (p := 64) (z := 69) (kj_eq w45 (by decide) : l2_24 = 4) (by decide +kernel) (by decide +kernel) ?_
                        refine fo_goS mi_k34 fz34_126_2_128 [.int 0, .int l3_28, .ref 69] rfl ?_
                        refine ko_iast3 mi_k34.1 (n := 8) (c := 8) (ax := (0, 0, 0, 0, 0)) (mi_k34.2 _ _ (by rfl)) (by rfl) (ksG69 _ _ _ _) (ksA69 _ _ _ _) (hL28.I.2.1 69) rfl (ow4 p28_1) (ow203 c32 kow8) ?_
                        intro a46 ea46 fa46
                        have hJ46 := kG_a3 hL28 69 rfl ea46 fa46 (kd_bd _)
                        have s47 : (l3_28 + 1).toInt = l3_28.toInt + (1 : Int32).toInt := kd_add (ow32 p28_1 kow1) (ow198 c32 kow8 kow1)
                        first | refine fo_goL mi_k34 fz34_112_2_114 [(3, .int (l3_28 + 1)), (2, .int l2_24), (0, .ref 50), (1, .ref 1)] [] (by rfl) ?_ | refine fo_goL mi_k34 fz34_129_2_114 [(3, .int (l3_28 + 1)), (2, .int l2_24), (0, .ref 50), (1, .ref 1)] [] (by rfl) ?_
                        exact ih28 _ _ _ _ _ hJ46 (ow209 c27 w45 kow8) (ow34 p28_1 s47 kow1) (kFz_step (m := 4) O28_0 (hL28.I.2.1 69) rfl (ow139 w45) (ow4 p28_1) (ow203 c32 kow8) (ow40 s47 kow1) ea46 fa46) (kj_meas (ow200 s47 kow1) (ow201 c32 kow8) hm28)
                      by_cases w48 : l2_24.toInt = 5
                      ·
                        refine ft_alx mi_k34 (pc := 125) (v := 5) (p := 64) (z := 70) (kj_eq w48 (by decide) : l2_24 = 5) (by decide +kernel) (by decide +kernel) ?_
                        refine fo_goS mi_k34 fz34_126_2_128 [.int 0, .int l3_28, .ref 70] rfl ?_
                        refine ko_iast3 mi_k34.1 (n := 8) (c := 8) (ax := (0, 0, 0, 0, 0)) (mi_k34.2 _ _ (by rfl)) (by rfl) (ksG70 _ _ _ _) (ksA70 _ _ _ _) (hL28.I.2.1 70) rfl (ow4 p28_1) (ow203 c32 kow8) ?_
                        intro a49 ea49 fa49
                        have hJ49 := kG_a3 hL28 70 rfl ea49 fa49 (kd_bd _)
                        have s50 : (l3_28 + 1).toInt = l3_28.toInt + (1 : Int32).toInt := kd_add (ow32 p28_1 kow1) (ow198 c32 kow8 kow1)
                        first | refine fo_goL mi_k34 fz34_112_2_114 [(3, .int (l3_28 + 1)), (2, .int l2_24), (0, .ref 50), (1, .ref 1)] [] (by rfl) ?_ | refine fo_goL mi_k34 fz34_129_2_114 [(3, .int (l3_28 + 1)), (2, .int l2_24), (0, .ref 50), (1, .ref 1)] [] (by rfl) ?_
                        exact ih28 _ _ _ _ _ hJ49 (ow210 c27 w48 kow8) (ow34 p28_1 s50 kow1) (kFz_step (m := 5) O28_0 (hL28.I.2.1 70) rfl (ow150 w48) (ow4 p28_1) (ow203 c32 kow8) (ow40 s50 kow1) ea49 fa49) (kj_meas (ow200 s50 kow1) (ow201 c32 kow8) hm28)
                      by_cases w51 : l2_24.toInt = 6
                      ·
                        refine ft_alx mi_k34 (pc := 125) (v := 6) (p := 64) (z := 71) (kj_eq w51 (by decide) : l2_24 = 6) (by decide +kernel) (by decide +kernel) ?_
                        refine fo_goS mi_k34 fz34_126_2_128 [.int 0, .int l3_28, .ref 71] rfl ?_
                        refine ko_iast3 mi_k34.1 (n := 8) (c := 8) (ax := (0, 0, 0, 0, 0)) (mi_k34.2 _ _ (by rfl)) (by rfl) (ksG71 _ _ _ _) (ksA71 _ _ _ _) (hL28.I.2.1 71) rfl (ow4 p28_1) (ow203 c32 kow8) ?_
                        intro a52 ea52 fa52
                        have hJ52 := kG_a3 hL28 71 rfl ea52 fa52 (kd_bd _)
                        have s53 : (l3_28 + 1).toInt = l3_28.toInt + (1 : Int32).toInt := kd_add (ow32 p28_1 kow1) (ow198 c32 kow8 kow1)
                        first | refine fo_goL mi_k34 fz34_112_2_114 [(3, .int (l3_28 + 1)), (2, .int l2_24), (0, .ref 50), (1, .ref 1)] [] (by rfl) ?_ | refine fo_goL mi_k34 fz34_129_2_114 [(3, .int (l3_28 + 1)), (2, .int l2_24), (0, .ref 50), (1, .ref 1)] [] (by rfl) ?_
                        exact ih28 _ _ _ _ _ hJ52 (ow211 c27 w51 kow8) (ow34 p28_1 s53 kow1) (kFz_step (m := 6) O28_0 (hL28.I.2.1 71) rfl (ow162 w51) (ow4 p28_1) (ow203 c32 kow8) (ow40 s53 kow1) ea52 fa52) (kj_meas (ow200 s53 kow1) (ow201 c32 kow8) hm28)
                      by_cases w54 : l2_24.toInt = 7
                      ·
                        refine ft_alx mi_k34 (pc := 125) (v := 7) (p := 64) (z := 72) (kj_eq w54 (by decide) : l2_24 = 7) (by decide +kernel) (by decide +kernel) ?_
                        refine fo_goS mi_k34 fz34_126_2_128 [.int 0, .int l3_28, .ref 72] rfl ?_
                        refine ko_iast3 mi_k34.1 (n := 8) (c := 8) (ax := (0, 0, 0, 0, 0)) (mi_k34.2 _ _ (by rfl)) (by rfl) (ksG72 _ _ _ _) (ksA72 _ _ _ _) (hL28.I.2.1 72) rfl (ow4 p28_1) (ow203 c32 kow8) ?_
                        intro a55 ea55 fa55
                        have hJ55 := kG_a3 hL28 72 rfl ea55 fa55 (kd_bd _)
                        have s56 : (l3_28 + 1).toInt = l3_28.toInt + (1 : Int32).toInt := kd_add (ow32 p28_1 kow1) (ow198 c32 kow8 kow1)
                        first | refine fo_goL mi_k34 fz34_112_2_114 [(3, .int (l3_28 + 1)), (2, .int l2_24), (0, .ref 50), (1, .ref 1)] [] (by rfl) ?_ | refine fo_goL mi_k34 fz34_129_2_114 [(3, .int (l3_28 + 1)), (2, .int l2_24), (0, .ref 50), (1, .ref 1)] [] (by rfl) ?_
                        exact ih28 _ _ _ _ _ hJ55 (ow212 c27 w54 kow8) (ow34 p28_1 s56 kow1) (kFz_step (m := 7) O28_0 (hL28.I.2.1 72) rfl (ow213 c27 w54 kow8) (ow4 p28_1) (ow203 c32 kow8) (ow40 s56 kow1) ea55 fa55) (kj_meas (ow200 s56 kow1) (ow201 c32 kow8) hm28)
                      exact (ow214 c27 p24_0 w33 w36 w39 w42 w45 w48 w51 w54 kow8).elim
                exact lp28 _ _ _ _ _ _ (kG_self _ hL24.I hL24.R) (ow204 c27 p24_0 kow8) (ow9 kow0) (kFz_le O24_0 (by rw [kow0]; omega)) (Nat.lt_succ_self _)
          exact lp24 _ _ _ _ _ _ (kG_self _ hG22.I hG22.R) (ow9 kow0) (kFz_0 (by rw [kow0]; decide)) (Nat.lt_succ_self _)
        ·
          have c57 : l2_20.toInt ≤ (4 : Int32).toInt := kd_ltF c; clear c
          refine fo_goS mi_k34 fz34_91_4_97 [.int 0, .int l2_20, .ref 63] rfl ?_
          refine ko_iast3 mi_k34.1 (n := 5) (c := 5) (ax := (0, 0, 0, 0, 0)) (mi_k34.2 _ _ (by rfl)) (by rfl) (ksG63 _ _ _ _) (ksA63 _ _ _ _) (hL20.I.2.1 63) rfl (ow4 p20_0) (ow215 c57 kow4) ?_
          intro a58 ea58 fa58
          have hJ58 := kG_a3 hL20 63 rfl ea58 fa58 (kd_bd _)
          have s59 : (l2_20 + 1).toInt = l2_20.toInt + (1 : Int32).toInt := kd_add (ow32 p20_0 kow1) (ow216 c57 kow4 kow1)
          first | refine fo_goL mi_k34 fz34_84_2_86 [(2, .int (l2_20 + 1)), (0, .ref 50), (1, .ref 1)] [] (by rfl) ?_ | refine fo_goL mi_k34 fz34_98_2_86 [(2, .int (l2_20 + 1)), (0, .ref 50), (1, .ref 1)] [] (by rfl) ?_
          exact ih20 _ _ _ _ _ hJ58 (ow34 p20_0 s59 kow1) (kZr_step O20_0 (hL20.I.2.1 63) (ow4 p20_0) (ow217 c57 kow4) (ow40 s59 kow1) ea58) (kj_meas (ow184 s59 kow1) (ow218 c57 kow4) hm20)
    exact lp20 _ _ _ _ _ _ (kG_self _ hJ19.I hJ19.R) (ow9 kow0) (kZr_zero kow0) (Nat.lt_succ_self _)
  ·
    have eRrg1_0 : rg1 0 = 100 := eRrg1_0
    have eRrg1_2 : rg1 2 = 10 := eRrg1_2
    refine ko_eq (x1 := (81, [(0, .ref 50), (1, .ref 1)], [.ref 100, .ref 50], (0, 0), ks (ku (ku (ku ig1 3200 (ig1 64)) 3206 (ig1 70)) 3207 (ig1 71)) a16 qg1 rg1)) (by rw [eRrg1_0]) ?_
    have hJ60 := kG_r hJ18 1 rfl (v := 100) ⟨hJ18.R.1, by first | exact Or.inl rfl | exact Or.inr (Or.inl rfl) | exact Or.inr (Or.inr rfl)⟩
    refine ko_steps mi_in34 3 _ (86, [(2, .int 0), (0, .ref 50), (1, .ref 1)], [], (0, 0), ks (ku (ku (ku ig1 3200 (ig1 64)) 3206 (ig1 70)) 3207 (ig1 71)) a16 qg1 (ku rg1 1 100)) (by rfl) ?_
    have lp61 : ∀ (nz : Nat) (i61 : Nat → Int32) (a61 : Nat → List Int32) (q61 : Nat → List Int64) (r61 : Nat → Nat) (l2_61 : Int32), kG yw34_50_1_L86 (ku (ku (ku ig1 3200 (ig1 64)) 3206 (ig1 70)) 3207 (ig1 71)) a16 qg1 (ku rg1 1 100) i61 a61 q61 r61 → (0 : Int) ≤ l2_61.toInt → kZr (a61 63) l2_61.toInt → ((5 - l2_61.toInt)).toNat < nz → ko 5 (mi_h34, mi_c34) P (86, [(2, .int l2_61), (0, .ref 50), (1, .ref 1)], [], (0, 0), ks i61 a61 q61 r61) := by
      intro nz
      induction nz with
      | zero =>
        intro _ _ _ _ _ _ _ _ hm
        exact absurd hm (Nat.not_lt_zero _)
      | succ nz ih61 =>
        intro i61 a61 q61 r61 l2_61 hL61 p61_0 O61_0 hm61
        refine fo_goL mi_k34 fz34_86_2_88 [(2, .int l2_61), (0, .ref 50), (1, .ref 1)] [.int 4, .int l2_61] rfl ?_
        refine ft_ifS mi_k34 (decide (4 < l2_61)) 104 91 [] (by rfl) (fun c => ?_) (fun c => ?_)
        ·
          have c62 : (4 : Int32).toInt < l2_61.toInt := kd_lt c; clear c
          have hG63 := kG_call hJ60 hL61 (by decide +kernel)
          have qz64 : a61 63 = List.replicate 5 0 := kZr_end O61_0 (hG63.I.2.1 63) (ow196 c62 kow4)
          first | refine fo_goL mi_k34 fz34_104_2_106 [(2, .int 0), (0, .ref 50), (1, .ref 1)] [] (by rfl) ?_ | refine fo_goL mi_k34 fz34_135_2_106 [(2, .int 0), (0, .ref 50), (1, .ref 1)] [] (by rfl) ?_
          have lp65 : ∀ (nz : Nat) (i65 : Nat → Int32) (a65 : Nat → List Int32) (q65 : Nat → List Int64) (r65 : Nat → Nat) (l2_65 : Int32), kG yw34_50_1_L106 i61 a61 q61 r61 i65 a65 q65 r65 → (0 : Int) ≤ l2_65.toInt → kFz a65 (8 * l2_65.toInt) → ((8 - l2_65.toInt)).toNat < nz → ko 5 (mi_h34, mi_c34) P (106, [(2, .int l2_65), (0, .ref 50), (1, .ref 1)], [], (0, 0), ks i65 a65 q65 r65) := by
            intro nz
            induction nz with
            | zero =>
              intro _ _ _ _ _ _ _ _ hm
              exact absurd hm (Nat.not_lt_zero _)
            | succ nz ih65 =>
              intro i65 a65 q65 r65 l2_65 hL65 p65_0 O65_0 hm65
              refine fo_goL mi_k34 fz34_106_2_109 [(2, .int l2_65), (0, .ref 50), (1, .ref 1)] [.int 8, .int l2_65] rfl ?_
              refine ft_ifS mi_k34 (decide (8 ≤ l2_65)) 141 112 [] (by rfl) (fun c => ?_) (fun c => ?_)
              ·
                have c66 : (8 : Int32).toInt ≤ l2_65.toInt := kd_le c; clear c
                have hG67 := kG_call hG63 hL65 (by decide +kernel)
                exact ft_ret mi_k34 (by rfl) (hP  _ _ _ _ hG67 ⟨trivial, ⟨⟨(show a65 51 = mi_cpy (a 2) (a 51) (0 : Int32).toNatClampNeg (0 : Int32).toNatClampNeg (sMx 0 (sMn 8 8)).toNatClampNeg from (by first | rfl | (simp only [hL65.fa 51 rfl, hL61.fa 51 rfl, fa16 51 (by decide), fa14 51 (by decide), fa12 51 (by decide), q2, sMn, sMx]; done) | (simp only [hL65.fa 51 rfl, hL61.fa 51 rfl, fa16 51 (by decide), fa14 51 (by decide), fa12 51 (by decide), q2, sMn, sMx]; rfl))), (show a65 55 = mi_cpy (a 6) (a 55) (0 : Int32).toNatClampNeg (0 : Int32).toNatClampNeg (sMx 0 (sMn 8 8)).toNatClampNeg from (by first | rfl | (simp only [hL65.fa 55 rfl, hL61.fa 55 rfl, fa16 55 (by decide), fa14 55 (by decide), fa12 55 (by decide), q3, sMn, sMx]; done) | (simp only [hL65.fa 55 rfl, hL61.fa 55 rfl, fa16 55 (by decide), fa14 55 (by decide), fa12 55 (by decide), q3, sMn, sMx]; rfl))), (show a65 63 = List.replicate 5 0 from (by first | rfl | (simp only [hL65.fa 63 rfl, qz64, sMn, sMx]; done) | (simp only [hL65.fa 63 rfl, qz64, sMn, sMx]; rfl))), (show i65 3208 = i 72 from (by first | rfl | (simp only [(show i65 3208 = i61 3208 from hL65.fi 3208 rfl), (show i61 3208 = ig1 3208 from hL61.fi 3208 rfl), q5, sMn, sMx]; done) | (simp only [(show i65 3208 = i61 3208 from hL65.fi 3208 rfl), (show i61 3208 = ig1 3208 from hL61.fi 3208 rfl), q5, sMn, sMx]; rfl))), (show i65 3209 = i 73 from (by first | rfl | (simp only [(show i65 3209 = i61 3209 from hL65.fi 3209 rfl), (show i61 3209 = ig1 3209 from hL61.fi 3209 rfl), q6, sMn, sMx]; done) | (simp only [(show i65 3209 = i61 3209 from hL65.fi 3209 rfl), (show i61 3209 = ig1 3209 from hL61.fi 3209 rfl), q6, sMn, sMx]; rfl))), (show a65 57 = mi_cpy (a 8) (a 57) (0 : Int32).toNatClampNeg (0 : Int32).toNatClampNeg (5 : Int32).toNatClampNeg from (by first | rfl | (simp only [hL65.fa 57 rfl, hL61.fa 57 rfl, fa16 57 (by decide), fa14 57 (by decide), fa12 57 (by decide), q7, sMn, sMx]; done) | (simp only [hL65.fa 57 rfl, hL61.fa 57 rfl, fa16 57 (by decide), fa14 57 (by decide), fa12 57 (by decide), q7, sMn, sMx]; rfl))), (show a65 58 = mi_cpy (a 9) (a 58) (0 : Int32).toNatClampNeg (0 : Int32).toNatClampNeg (5 : Int32).toNatClampNeg from (by first | rfl | (simp only [hL65.fa 58 rfl, hL61.fa 58 rfl, fa16 58 (by decide), fa14 58 (by decide), fa12 58 (by decide), q8, sMn, sMx]; done) | (simp only [hL65.fa 58 rfl, hL61.fa 58 rfl, fa16 58 (by decide), fa14 58 (by decide), fa12 58 (by decide), q8, sMn, sMx]; rfl))), (show i65 3586 = i 450 from (by first | rfl | (simp only [(show i65 3586 = i61 3586 from hL65.fi 3586 rfl), (show i61 3586 = ig1 3586 from hL61.fi 3586 rfl), q9, sMn, sMx]; done) | (simp only [(show i65 3586 = i61 3586 from hL65.fi 3586 rfl), (show i61 3586 = ig1 3586 from hL61.fi 3586 rfl), q9, sMn, sMx]; rfl))), (show i65 3200 = i 64 from (by first | rfl | (simp only [(show i65 3200 = i61 3200 from hL65.fi 3200 rfl), (show i61 3200 = (ig1 64) from hL61.fi 3200 rfl), (show ig1 64 = i 64 from kg1.fi 64 rfl), sMn, sMx]; done) | (simp only [(show i65 3200 = i61 3200 from hL65.fi 3200 rfl), (show i61 3200 = (ig1 64) from hL61.fi 3200 rfl), (show ig1 64 = i 64 from kg1.fi 64 rfl), sMn, sMx]; rfl))), (show a65 52 = mi_cpy (a 3) (a 52) (0 : Int32).toNatClampNeg (0 : Int32).toNatClampNeg (8 : Int32).toNatClampNeg from (by first | rfl | (simp only [hL65.fa 52 rfl, hL61.fa 52 rfl, fa16 52 (by decide), fa14 52 (by decide), ea12, kg1.fa 3 rfl, kg1.fa 52 rfl, sMn, sMx]; done) | (simp only [hL65.fa 52 rfl, hL61.fa 52 rfl, fa16 52 (by decide), fa14 52 (by decide), ea12, kg1.fa 3 rfl, kg1.fa 52 rfl, sMn, sMx]; rfl))), (show a65 53 = mi_cpy (a 4) (a 53) (0 : Int32).toNatClampNeg (0 : Int32).toNatClampNeg (8 : Int32).toNatClampNeg from (by first | rfl | (simp only [hL65.fa 53 rfl, hL61.fa 53 rfl, fa16 53 (by decide), ea14, fa12 4 (by decide), fa12 53 (by decide), kg1.fa 53 rfl, kg1.fa 4 rfl, sMn, sMx]; done) | (simp only [hL65.fa 53 rfl, hL61.fa 53 rfl, fa16 53 (by decide), ea14, fa12 4 (by decide), fa12 53 (by decide), kg1.fa 53 rfl, kg1.fa 4 rfl, sMn, sMx]; rfl))), (show a65 54 = mi_cpy (a 5) (a 54) (0 : Int32).toNatClampNeg (0 : Int32).toNatClampNeg (8 : Int32).toNatClampNeg from (by first | rfl | (simp only [hL65.fa 54 rfl, hL61.fa 54 rfl, ea16, fa14 5 (by decide), fa14 54 (by decide), fa12 54 (by decide), kg1.fa 54 rfl, fa12 5 (by decide), kg1.fa 5 rfl, sMn, sMx]; done) | (simp only [hL65.fa 54 rfl, hL61.fa 54 rfl, ea16, fa14 5 (by decide), fa14 54 (by decide), fa12 54 (by decide), kg1.fa 54 rfl, fa12 5 (by decide), kg1.fa 5 rfl, sMn, sMx]; rfl))), (show i65 3206 = i 70 from (by first | rfl | (simp only [(show i65 3206 = i61 3206 from hL65.fi 3206 rfl), (show i61 3206 = (ig1 70) from hL61.fi 3206 rfl), (show ig1 70 = i 70 from kg1.fi 70 rfl), sMn, sMx]; done) | (simp only [(show i65 3206 = i61 3206 from hL65.fi 3206 rfl), (show i61 3206 = (ig1 70) from hL61.fi 3206 rfl), (show ig1 70 = i 70 from kg1.fi 70 rfl), sMn, sMx]; rfl))), (show i65 3207 = i 71 from (by first | rfl | (simp only [(show i65 3207 = i61 3207 from hL65.fi 3207 rfl), (show i61 3207 = (ig1 71) from hL61.fi 3207 rfl), (show ig1 71 = i 71 from kg1.fi 71 rfl), sMn, sMx]; done) | (simp only [(show i65 3207 = i61 3207 from hL65.fi 3207 rfl), (show i61 3207 = (ig1 71) from hL61.fi 3207 rfl), (show ig1 71 = i 71 from kg1.fi 71 rfl), sMn, sMx]; rfl)))⟩, ⟨kFz_all O65_0 (ow197 c66 kow8) (kl_65 hG67.I), ((hL65.fr 1 rfl).trans ((hL61.fr 1 rfl).trans (show (ku rg1 1 100) 1 = 100 from rfl))).trans ((eRrg1_0.symm).trans (kg1.fr 0 rfl))⟩⟩⟩)
              ·
                have c68 : l2_65.toInt < (8 : Int32).toInt := kd_leF c; clear c
                first | refine fo_goL mi_k34 fz34_112_2_114 [(3, .int 0), (2, .int l2_65), (0, .ref 50), (1, .ref 1)] [] (by rfl) ?_ | refine fo_goL mi_k34 fz34_129_2_114 [(3, .int 0), (2, .int l2_65), (0, .ref 50), (1, .ref 1)] [] (by rfl) ?_
                have lp69 : ∀ (nz : Nat) (i69 : Nat → Int32) (a69 : Nat → List Int32) (q69 : Nat → List Int64) (r69 : Nat → Nat) (l3_69 : Int32), kG yw34_50_1_L114 i65 a65 q65 r65 i69 a69 q69 r69 → ((0 : Int) ≤ l2_65.toInt) ∧ (l2_65.toInt ≤ 7) → (0 : Int) ≤ l3_69.toInt → kFz a69 (8 * l2_65.toInt + l3_69.toInt) → ((8 - l3_69.toInt)).toNat < nz → ko 5 (mi_h34, mi_c34) P (114, [(3, .int l3_69), (2, .int l2_65), (0, .ref 50), (1, .ref 1)], [], (0, 0), ks i69 a69 q69 r69) := by
                  intro nz
                  induction nz with
                  | zero =>
                    intro _ _ _ _ _ _ _ _ _ hm
                    exact absurd hm (Nat.not_lt_zero _)
                  | succ nz ih69 =>
                    intro i69 a69 q69 r69 l3_69 hL69 p69_0 p69_1 O69_0 hm69
                    refine fo_goL mi_k34 fz34_114_2_117 [(3, .int l3_69), (2, .int l2_65), (0, .ref 50), (1, .ref 1)] [.int 8, .int l3_69] rfl ?_
                    refine ft_ifS mi_k34 (decide (8 ≤ l3_69)) 135 120 [] (by rfl) (fun c => ?_) (fun c => ?_)
                    ·
                      have c70 : (8 : Int32).toInt ≤ l3_69.toInt := kd_le c; clear c
                      have hG71 := kG_call hL65 hL69 (by decide +kernel)
                      have s72 : (l2_65 + 1).toInt = l2_65.toInt + (1 : Int32).toInt := kd_add (ow32 p65_0 kow1) (ow198 c68 kow8 kow1)
                      first | refine fo_goL mi_k34 fz34_104_2_106 [(2, .int (l2_65 + 1)), (3, .int l3_69), (0, .ref 50), (1, .ref 1)] [] (by rfl) ?_ | refine fo_goL mi_k34 fz34_135_2_106 [(2, .int (l2_65 + 1)), (3, .int l3_69), (0, .ref 50), (1, .ref 1)] [] (by rfl) ?_
                      refine ko_perm [(2, .int (l2_65 + 1)), (0, .ref 50), (1, .ref 1)] (List.forall_mem_cons.mpr ⟨(List.Mem.head _), (List.forall_mem_cons.mpr ⟨(List.Mem.tail _ (List.Mem.tail _ (List.Mem.head _))), (List.forall_mem_cons.mpr ⟨(List.Mem.tail _ (List.Mem.tail _ (List.Mem.tail _ (List.Mem.head _)))), (fun _ h => absurd h List.not_mem_nil)⟩)⟩)⟩) ?_
                      exact ih65 _ _ _ _ _ hG71 (ow34 p65_0 s72 kow1) (kFz_le O69_0 (ow199 c70 s72 kow8 kow1)) (kj_meas (ow200 s72 kow1) (ow201 c68 kow8) hm65)
                    ·
                      have c73 : l3_69.toInt < (8 : Int32).toInt := kd_leF c; clear c
                      refine fo_goS mi_k34 fz34_120_3_125 [.int l2_65, .ref 64] rfl ?_
                      by_cases w74 : l2_65.toInt = 0
                      ·
                        refine ft_alx mi_k34 (pc := 125) (v := 0) (p := 64) (z := 65) (kj_eq w74 (by decide) : l2_65 = 0) (by decide +kernel) (by decide +kernel) ?_
                        refine fo_goS mi_k34 fz34_126_2_128 [.int 0, .int l3_69, .ref 65] rfl ?_
                        refine ko_iast3 mi_k34.1 (n := 8) (c := 8) (ax := (0, 0, 0, 0, 0)) (mi_k34.2 _ _ (by rfl)) (by rfl) (ksG65 _ _ _ _) (ksA65 _ _ _ _) (hL69.I.2.1 65) rfl (ow4 p69_1) (ow203 c73 kow8) ?_
                        intro a75 ea75 fa75
                        have hJ75 := kG_a3 hL69 65 rfl ea75 fa75 (kd_bd _)
                        have s76 : (l3_69 + 1).toInt = l3_69.toInt + (1 : Int32).toInt := kd_add (ow32 p69_1 kow1) (ow198 c73 kow8 kow1)
                        first | refine fo_goL mi_k34 fz34_112_2_114 [(3, .int (l3_69 + 1)), (2, .int l2_65), (0, .ref 50), (1, .ref 1)] [] (by rfl) ?_ | refine fo_goL mi_k34 fz34_129_2_114 [(3, .int (l3_69 + 1)), (2, .int l2_65), (0, .ref 50), (1, .ref 1)] [] (by rfl) ?_
                        exact ih69 _ _ _ _ _ hJ75 (ow204 c68 p65_0 kow8) (ow34 p69_1 s76 kow1) (kFz_step (m := 0) O69_0 (hL69.I.2.1 65) rfl (ow205 p65_0 w74) (ow4 p69_1) (ow203 c73 kow8) (ow40 s76 kow1) ea75 fa75) (kj_meas (ow200 s76 kow1) (ow201 c73 kow8) hm69)
                      by_cases w77 : l2_65.toInt = 1
                      ·
                        refine ft_alx mi_k34 (pc := 125) (v := 1) (p := 64) (z := 66) (kj_eq w77 (by decide) : l2_65 = 1) (by decide +kernel) (by decide +kernel) ?_
                        refine fo_goS mi_k34 fz34_126_2_128 [.int 0, .int l3_69, .ref 66] rfl ?_
                        refine ko_iast3 mi_k34.1 (n := 8) (c := 8) (ax := (0, 0, 0, 0, 0)) (mi_k34.2 _ _ (by rfl)) (by rfl) (ksG66 _ _ _ _) (ksA66 _ _ _ _) (hL69.I.2.1 66) rfl (ow4 p69_1) (ow203 c73 kow8) ?_
                        intro a78 ea78 fa78
                        have hJ78 := kG_a3 hL69 66 rfl ea78 fa78 (kd_bd _)
                        have s79 : (l3_69 + 1).toInt = l3_69.toInt + (1 : Int32).toInt := kd_add (ow32 p69_1 kow1) (ow198 c73 kow8 kow1)
                        first | refine fo_goL mi_k34 fz34_112_2_114 [(3, .int (l3_69 + 1)), (2, .int l2_65), (0, .ref 50), (1, .ref 1)] [] (by rfl) ?_ | refine fo_goL mi_k34 fz34_129_2_114 [(3, .int (l3_69 + 1)), (2, .int l2_65), (0, .ref 50), (1, .ref 1)] [] (by rfl) ?_
                        exact ih69 _ _ _ _ _ hJ78 (ow206 c68 w77 kow8) (ow34 p69_1 s79 kow1) (kFz_step (m := 1) O69_0 (hL69.I.2.1 66) rfl (ow106 w77) (ow4 p69_1) (ow203 c73 kow8) (ow40 s79 kow1) ea78 fa78) (kj_meas (ow200 s79 kow1) (ow201 c73 kow8) hm69)
                      by_cases w80 : l2_65.toInt = 2
                      ·
                        refine ft_alx mi_k34 (pc := 125) (v := 2) (p := 64) (z := 67) (kj_eq w80 (by decide) : l2_65 = 2) (by decide +kernel) (by decide +kernel) ?_
                        refine fo_goS mi_k34 fz34_126_2_128 [.int 0, .int l3_69, .ref 67] rfl ?_
                        refine ko_iast3 mi_k34.1 (n := 8) (c := 8) (ax := (0, 0, 0, 0, 0)) (mi_k34.2 _ _ (by rfl)) (by rfl) (ksG67 _ _ _ _) (ksA67 _ _ _ _) (hL69.I.2.1 67) rfl (ow4 p69_1) (ow203 c73 kow8) ?_
                        intro a81 ea81 fa81
                        have hJ81 := kG_a3 hL69 67 rfl ea81 fa81 (kd_bd _)
                        have s82 : (l3_69 + 1).toInt = l3_69.toInt + (1 : Int32).toInt := kd_add (ow32 p69_1 kow1) (ow198 c73 kow8 kow1)
                        first | refine fo_goL mi_k34 fz34_112_2_114 [(3, .int (l3_69 + 1)), (2, .int l2_65), (0, .ref 50), (1, .ref 1)] [] (by rfl) ?_ | refine fo_goL mi_k34 fz34_129_2_114 [(3, .int (l3_69 + 1)), (2, .int l2_65), (0, .ref 50), (1, .ref 1)] [] (by rfl) ?_
                        exact ih69 _ _ _ _ _ hJ81 (ow207 c68 w80 kow8) (ow34 p69_1 s82 kow1) (kFz_step (m := 2) O69_0 (hL69.I.2.1 67) rfl (ow117 w80) (ow4 p69_1) (ow203 c73 kow8) (ow40 s82 kow1) ea81 fa81) (kj_meas (ow200 s82 kow1) (ow201 c73 kow8) hm69)
                      by_cases w83 : l2_65.toInt = 3
                      ·
                        refine ft_alx mi_k34 (pc := 125) (v := 3) (p := 64) (z := 68) (kj_eq w83 (by decide) : l2_65 = 3) (by decide +kernel) (by decide +kernel) ?_
                        refine fo_goS mi_k34 fz34_126_2_128 [.int 0, .int l3_69, .ref 68] rfl ?_
                        refine ko_iast3 mi_k34.1 (n := 8) (c := 8) (ax := (0, 0, 0, 0, 0)) (mi_k34.2 _ _ (by rfl)) (by rfl) (ksG68 _ _ _ _) (ksA68 _ _ _ _) (hL69.I.2.1 68) rfl (ow4 p69_1) (ow203 c73 kow8) ?_
                        intro a84 ea84 fa84
                        have hJ84 := kG_a3 hL69 68 rfl ea84 fa84 (kd_bd _)
                        have s85 : (l3_69 + 1).toInt = l3_69.toInt + (1 : Int32).toInt := kd_add (ow32 p69_1 kow1) (ow198 c73 kow8 kow1)
                        first | refine fo_goL mi_k34 fz34_112_2_114 [(3, .int (l3_69 + 1)), (2, .int l2_65), (0, .ref 50), (1, .ref 1)] [] (by rfl) ?_ | refine fo_goL mi_k34 fz34_129_2_114 [(3, .int (l3_69 + 1)), (2, .int l2_65), (0, .ref 50), (1, .ref 1)] [] (by rfl) ?_
                        exact ih69 _ _ _ _ _ hJ84 (ow208 c68 w83 kow8) (ow34 p69_1 s85 kow1) (kFz_step (m := 3) O69_0 (hL69.I.2.1 68) rfl (ow128 w83) (ow4 p69_1) (ow203 c73 kow8) (ow40 s85 kow1) ea84 fa84) (kj_meas (ow200 s85 kow1) (ow201 c73 kow8) hm69)
                      by_cases w86 : l2_65.toInt = 4
                      ·
                        refine ft_alx mi_k34 (pc := 125) (v := 4) (p := 64) (z := 69) (kj_eq w86 (by decide) : l2_65 = 4) (by decide +kernel) (by decide +kernel) ?_
                        refine fo_goS mi_k34 fz34_126_2_128 [.int 0, .int l3_69, .ref 69] rfl ?_
                        refine ko_iast3 mi_k34.1 (n := 8) (c := 8) (ax := (0, 0, 0, 0, 0)) (mi_k34.2 _ _ (by rfl)) (by rfl) (ksG69 _ _ _ _) (ksA69 _ _ _ _) (hL69.I.2.1 69) rfl (ow4 p69_1) (ow203 c73 kow8) ?_
                        intro a87 ea87 fa87
                        have hJ87 := kG_a3 hL69 69 rfl ea87 fa87 (kd_bd _)
                        have s88 : (l3_69 + 1).toInt = l3_69.toInt + (1 : Int32).toInt := kd_add (ow32 p69_1 kow1) (ow198 c73 kow8 kow1)
                        first | refine fo_goL mi_k34 fz34_112_2_114 [(3, .int (l3_69 + 1)), (2, .int l2_65), (0, .ref 50), (1, .ref 1)] [] (by rfl) ?_ | refine fo_goL mi_k34 fz34_129_2_114 [(3, .int (l3_69 + 1)), (2, .int l2_65), (0, .ref 50), (1, .ref 1)] [] (by rfl) ?_
                        exact ih69 _ _ _ _ _ hJ87 (ow209 c68 w86 kow8) (ow34 p69_1 s88 kow1) (kFz_step (m := 4) O69_0 (hL69.I.2.1 69) rfl (ow139 w86) (ow4 p69_1) (ow203 c73 kow8) (ow40 s88 kow1) ea87 fa87) (kj_meas (ow200 s88 kow1) (ow201 c73 kow8) hm69)
                      by_cases w89 : l2_65.toInt = 5
                      ·
                        refine ft_alx mi_k34 (pc := 125) (v := 5) (p := 64) (z := 70) (kj_eq w89 (by decide) : l2_65 = 5) (by decide +kernel) (by decide +kernel) ?_
                        refine fo_goS mi_k34 fz34_126_2_128 [.int 0, .int l3_69, .ref 70] rfl ?_
                        refine ko_iast3 mi_k34.1 (n := 8) (c := 8) (ax := (0, 0, 0, 0, 0)) (mi_k34.2 _ _ (by rfl)) (by rfl) (ksG70 _ _ _ _) (ksA70 _ _ _ _) (hL69.I.2.1 70) rfl (ow4 p69_1) (ow203 c73 kow8) ?_
                        intro a90 ea90 fa90
                        have hJ90 := kG_a3 hL69 70 rfl ea90 fa90 (kd_bd _)
                        have s91 : (l3_69 + 1).toInt = l3_69.toInt + (1 : Int32).toInt := kd_add (ow32 p69_1 kow1) (ow198 c73 kow8 kow1)
                        first | refine fo_goL mi_k34 fz34_112_2_114 [(3, .int (l3_69 + 1)), (2, .int l2_65), (0, .ref 50), (1, .ref 1)] [] (by rfl) ?_ | refine fo_goL mi_k34 fz34_129_2_114 [(3, .int (l3_69 + 1)), (2, .int l2_65), (0, .ref 50), (1, .ref 1)] [] (by rfl) ?_
                        exact ih69 _ _ _ _ _ hJ90 (ow210 c68 w89 kow8) (ow34 p69_1 s91 kow1) (kFz_step (m := 5) O69_0 (hL69.I.2.1 70) rfl (ow150 w89) (ow4 p69_1) (ow203 c73 kow8) (ow40 s91 kow1) ea90 fa90) (kj_meas (ow200 s91 kow1) (ow201 c73 kow8) hm69)
                      by_cases w92 : l2_65.toInt = 6
                      ·
                        refine ft_alx mi_k34 (pc := 125) (v := 6) (p := 64) (z := 71) (kj_eq w92 (by decide) : l2_65 = 6) (by decide +kernel) (by decide +kernel) ?_
                        refine fo_goS mi_k34 fz34_126_2_128 [.int 0, .int l3_69, .ref 71] rfl ?_
                        refine ko_iast3 mi_k34.1 (n := 8) (c := 8) (ax := (0, 0, 0, 0, 0)) (mi_k34.2 _ _ (by rfl)) (by rfl) (ksG71 _ _ _ _) (ksA71 _ _ _ _) (hL69.I.2.1 71) rfl (ow4 p69_1) (ow203 c73 kow8) ?_
                        intro a93 ea93 fa93
                        have hJ93 := kG_a3 hL69 71 rfl ea93 fa93 (kd_bd _)
                        have s94 : (l3_69 + 1).toInt = l3_69.toInt + (1 : Int32).toInt := kd_add (ow32 p69_1 kow1) (ow198 c73 kow8 kow1)
                        first | refine fo_goL mi_k34 fz34_112_2_114 [(3, .int (l3_69 + 1)), (2, .int l2_65), (0, .ref 50), (1, .ref 1)] [] (by rfl) ?_ | refine fo_goL mi_k34 fz34_129_2_114 [(3, .int (l3_69 + 1)), (2, .int l2_65), (0, .ref 50), (1, .ref 1)] [] (by rfl) ?_
                        exact ih69 _ _ _ _ _ hJ93 (ow211 c68 w92 kow8) (ow34 p69_1 s94 kow1) (kFz_step (m := 6) O69_0 (hL69.I.2.1 71) rfl (ow162 w92) (ow4 p69_1) (ow203 c73 kow8) (ow40 s94 kow1) ea93 fa93) (kj_meas (ow200 s94 kow1) (ow201 c73 kow8) hm69)
                      by_cases w95 : l2_65.toInt = 7
                      ·
                        refine ft_alx mi_k34 (pc := 125) (v := 7) (p := 64) (z := 72) (kj_eq w95 (by decide) : l2_65 = 7) (by decide +kernel) (by decide +kernel) ?_
                        refine fo_goS mi_k34 fz34_126_2_128 [.int 0, .int l3_69, .ref 72] rfl ?_
                        refine ko_iast3 mi_k34.1 (n := 8) (c := 8) (ax := (0, 0, 0, 0, 0)) (mi_k34.2 _ _ (by rfl)) (by rfl) (ksG72 _ _ _ _) (ksA72 _ _ _ _) (hL69.I.2.1 72) rfl (ow4 p69_1) (ow203 c73 kow8) ?_
                        intro a96 ea96 fa96
                        have hJ96 := kG_a3 hL69 72 rfl ea96 fa96 (kd_bd _)
                        have s97 : (l3_69 + 1).toInt = l3_69.toInt + (1 : Int32).toInt := kd_add (ow32 p69_1 kow1) (ow198 c73 kow8 kow1)
                        first | refine fo_goL mi_k34 fz34_112_2_114 [(3, .int (l3_69 + 1)), (2, .int l2_65), (0, .ref 50), (1, .ref 1)] [] (by rfl) ?_ | refine fo_goL mi_k34 fz34_129_2_114 [(3, .int (l3_69 + 1)), (2, .int l2_65), (0, .ref 50), (1, .ref 1)] [] (by rfl) ?_
                        exact ih69 _ _ _ _ _ hJ96 (ow212 c68 w95 kow8) (ow34 p69_1 s97 kow1) (kFz_step (m := 7) O69_0 (hL69.I.2.1 72) rfl (ow213 c68 w95 kow8) (ow4 p69_1) (ow203 c73 kow8) (ow40 s97 kow1) ea96 fa96) (kj_meas (ow200 s97 kow1) (ow201 c73 kow8) hm69)
                      exact (ow214 c68 p65_0 w74 w77 w80 w83 w86 w89 w92 w95 kow8).elim
                exact lp69 _ _ _ _ _ _ (kG_self _ hL65.I hL65.R) (ow204 c68 p65_0 kow8) (ow9 kow0) (kFz_le O65_0 (by rw [kow0]; omega)) (Nat.lt_succ_self _)
          exact lp65 _ _ _ _ _ _ (kG_self _ hG63.I hG63.R) (ow9 kow0) (kFz_0 (by rw [kow0]; decide)) (Nat.lt_succ_self _)
        ·
          have c98 : l2_61.toInt ≤ (4 : Int32).toInt := kd_ltF c; clear c
          refine fo_goS mi_k34 fz34_91_4_97 [.int 0, .int l2_61, .ref 63] rfl ?_
          refine ko_iast3 mi_k34.1 (n := 5) (c := 5) (ax := (0, 0, 0, 0, 0)) (mi_k34.2 _ _ (by rfl)) (by rfl) (ksG63 _ _ _ _) (ksA63 _ _ _ _) (hL61.I.2.1 63) rfl (ow4 p61_0) (ow215 c98 kow4) ?_
          intro a99 ea99 fa99
          have hJ99 := kG_a3 hL61 63 rfl ea99 fa99 (kd_bd _)
          have s100 : (l2_61 + 1).toInt = l2_61.toInt + (1 : Int32).toInt := kd_add (ow32 p61_0 kow1) (ow216 c98 kow4 kow1)
          first | refine fo_goL mi_k34 fz34_84_2_86 [(2, .int (l2_61 + 1)), (0, .ref 50), (1, .ref 1)] [] (by rfl) ?_ | refine fo_goL mi_k34 fz34_98_2_86 [(2, .int (l2_61 + 1)), (0, .ref 50), (1, .ref 1)] [] (by rfl) ?_
          exact ih61 _ _ _ _ _ hJ99 (ow34 p61_0 s100 kow1) (kZr_step O61_0 (hL61.I.2.1 63) (ow4 p61_0) (ow217 c98 kow4) (ow40 s100 kow1) ea99) (kj_meas (ow184 s100 kow1) (ow218 c98 kow4) hm61)
    exact lp61 _ _ _ _ _ _ (kG_self _ hJ60.I hJ60.R) (ow9 kow0) (kZr_zero kow0) (Nat.lt_succ_self _)
set_option maxRecDepth 100000 in
theorem ke26_50 {i : Nat → Int32} {a : Nat → List Int32} {q : Nat → List Int64} {r : Nat → Nat} (hI : kI i a q) (hr : kr r) (x1 : Int32) : km 1 26 [.ref 50, .int x1] (ks i a q r) (kPR (ks i a q r) (fun v => (v = 51 ∧ (x1.toInt = 0)) ∨ (v = 52 ∧ (x1.toInt = 1)) ∨ (v = 53 ∧ (x1.toInt = 2)) ∨ (v = 54 ∧ ((x1.toInt ≠ 0) ∧ (x1.toInt ≠ 1) ∧ (x1.toInt ≠ 2))))) := by
  have hG := kG_self kW0 hI hr
  refine km_ofPR (q := (mi_h26, mi_c26)) rfl (by decide) (Nat.le_of_ble_eq_true rfl) ?_
  intro P hP
  refine ft_goL mi_k26 1 1 [(0, .ref 50), (1, .int x1)] [.int x1] (by rfl) ?_
  by_cases w1 : x1.toInt = 0
  ·
    refine ft_swx mi_k26 (pc := 1) (v := 0) (t := 28) (kj_eq w1 (by decide) : x1 = 0) (by decide +kernel) ?_
    refine fo_goS mi_k26 fz26_28_2_32 [.ref 51] rfl ?_
    exact ft_ret mi_k26 (by rfl) (hP 51 (Or.inl ⟨rfl, (ow41 w1)⟩))
  by_cases w2 : x1.toInt = 1
  ·
    refine ft_swx mi_k26 (pc := 1) (v := 1) (t := 33) (kj_eq w2 (by decide) : x1 = 1) (by decide +kernel) ?_
    refine fo_goS mi_k26 fz26_33_2_37 [.ref 52] rfl ?_
    exact ft_ret mi_k26 (by rfl) (hP 52 (Or.inr (Or.inl ⟨rfl, (ow44 w2)⟩)))
  by_cases w3 : x1.toInt = 2
  ·
    refine ft_swx mi_k26 (pc := 1) (v := 2) (t := 38) (kj_eq w3 (by decide) : x1 = 2) (by decide +kernel) ?_
    refine fo_goS mi_k26 fz26_38_2_42 [.ref 53] rfl ?_
    exact ft_ret mi_k26 (by rfl) (hP 53 (Or.inr (Or.inr (Or.inl ⟨rfl, (ow55 w3)⟩))))
  refine ko_sw (ls := [(0, .ref 50), (1, .int x1)]) (r := []) (h := ks i a q r) mi_in26 (v := x1) (i := (.tableswitch 42 0 2 #[27, 32, 37], 27, 0, 0, 0, 0, 0)) (by rfl) rfl (ow404 w1 w2 w3) 43 (by rfl) ?_
  refine fo_goS mi_k26 fz26_43_2_47 [.ref 54] rfl ?_
  exact ft_ret mi_k26 (by rfl) (hP 54 (Or.inr (Or.inr (Or.inr (⟨rfl, (ow405 w1 w2 w3)⟩)))))
set_option maxRecDepth 100000 in
theorem ke27_50 {i : Nat → Int32} {a : Nat → List Int32} {q : Nat → List Int64} {r : Nat → Nat} (hI : kI i a q) (hr : kr r) (x1 : Int32) (x2 : Int32) : km 3 27 [.ref 50, .int x1, .int x2] (ks i a q r) (kPI (ks i a q r) (fun v => (True) ∧ v = cGet (i 3200) x1 x2 (a 51, a 52, a 53, a 54, i 3206, i 3207, i 3208))) := by
  have hG := kG_self kW0 hI hr
  refine km_ofPI (q := (mi_h27, mi_c27)) rfl (by decide) (Nat.le_of_ble_eq_true rfl) ?_
  intro P hP
  refine ft_goL mi_k27 1 1 [(0, .ref 50), (1, .int x1), (2, .int x2)] [.int x2] (by rfl) ?_
  by_cases w1 : x2.toInt = 4
  ·
    refine ft_swx mi_k27 (pc := 1) (v := 4) (t := 28) (kj_eq w1 (by decide) : x2 = 4) (by decide +kernel) ?_
    refine fo_goS mi_k27 fz27_28_2_32 [.int (i 3206)] rfl ?_
    have bw2 : x2.toInt = 4 := (ow397 w1)
    exact ft_ret mi_k27 (by rfl) (hP (i 3206) ⟨trivial, (show (i 3206) = cGet (i 3200) x1 x2 (a 51, a 52, a 53, a 54, i 3206, i 3207, i 3208) from (by unfold cGet; simp only [if_pos bw2]; first | done | rfl | (simp only [sMn, sMx]; done) | (simp only [sMn, sMx]; rfl)))⟩)
  by_cases w3 : x2.toInt = 5
  ·
    refine ft_swx mi_k27 (pc := 1) (v := 5) (t := 33) (kj_eq w3 (by decide) : x2 = 5) (by decide +kernel) ?_
    refine fo_goS mi_k27 fz27_33_2_37 [.int (i 3207)] rfl ?_
    have bw4 : ¬ (x2.toInt = 4) := (ow398 w3)
    have bw5 : x2.toInt = 5 := (ow399 w3)
    exact ft_ret mi_k27 (by rfl) (hP (i 3207) ⟨trivial, (show (i 3207) = cGet (i 3200) x1 x2 (a 51, a 52, a 53, a 54, i 3206, i 3207, i 3208) from (by unfold cGet; simp only [if_neg bw4, if_pos bw5]; first | done | rfl | (simp only [sMn, sMx]; done) | (simp only [sMn, sMx]; rfl)))⟩)
  by_cases w6 : x2.toInt = 6
  ·
    refine ft_swx mi_k27 (pc := 1) (v := 6) (t := 38) (kj_eq w6 (by decide) : x2 = 6) (by decide +kernel) ?_
    refine fo_goS mi_k27 fz27_38_2_42 [.int (i 3208)] rfl ?_
    have bw7 : ¬ (x2.toInt = 4) := (ow400 w6)
    have bw8 : ¬ (x2.toInt = 5) := (ow401 w6)
    have bw9 : x2.toInt = 6 := (ow402 w6)
    exact ft_ret mi_k27 (by rfl) (hP (i 3208) ⟨trivial, (show (i 3208) = cGet (i 3200) x1 x2 (a 51, a 52, a 53, a 54, i 3206, i 3207, i 3208) from (by unfold cGet; simp only [if_neg bw7, if_neg bw8, if_pos bw9]; first | done | rfl | (simp only [sMn, sMx]; done) | (simp only [sMn, sMx]; rfl)))⟩)
  refine ko_sw (ls := [(0, .ref 50), (1, .int x1), (2, .int x2)]) (r := []) (h := ks i a q r) mi_in27 (v := x2) (i := (.tableswitch 42 4 6 #[27, 32, 37], 27, 0, 0, 0, 0, 0)) (by rfl) rfl (ow403 w1 w3 w6) 43 (by rfl) ?_
  refine fo_goS mi_k27 fz27_43_2_45 [.int x1, .ref 50] rfl ?_
  refine ko_callPI mi_k27.1 (pc := 45) (ls := [(0, .ref 50), (1, .int x1), (2, .int x2)]) (st := [.int x1, .ref 50]) (h := ks i a q r) (i := (.invokevirtual 85, 3, 24, 0, 9, 0, 165)) (mi_k27.2 _ _ (by rfl)) (ft_invS mi_pq24 (by rfl)) (cy := mi_c24) mi_pq24 rfl (kc24_50 hG.I hG.R x1) (by decide) ?_
  intro vg10 hg10
  rcases hg10 with ⟨eg10, hg10⟩ | ⟨eg10, hg10⟩
  ·
    subst eg10
    have fi_3200 : ((0 : Int) ≤ (i 3200).toInt) ∧ ((i 3200).toInt ≤ 8) := hG.I.1 3200
    have z11 : ((0 : Int) ≤ x1.toInt) ∧ (x1.toInt < (i 3200).toInt) := hg10
    refine fo_goS mi_k27 fz27_48_3_53 [.int x2, .ref 50] rfl ?_
    refine ko_callPR mi_k27.1 (pc := 53) (ls := [(0, .ref 50), (1, .int x1), (2, .int x2)]) (st := [.int x2, .ref 50]) (h := ks i a q r) (i := (.invokevirtual 89, 3, 26, 0, 9, 0, 166)) (mi_k27.2 _ _ (by rfl)) (ft_invS mi_pq26 (by rfl)) (cy := mi_c26) mi_pq26 rfl (ke26_50 hG.I hG.R x2) (by decide) ?_
    intro vg12 hg12
    rcases hg12 with ⟨eg12, hg12⟩ | ⟨eg12, hg12⟩ | ⟨eg12, hg12⟩ | ⟨eg12, hg12⟩
    ·
      subst eg12
      have z13 : x2.toInt = 0 := hg12
      refine fo_goS mi_k27 fz27_56_1_57 [.int x1, .ref 51] rfl ?_
      refine ko_iald3 mi_k27.1 (n := 8) (c := 8) (ax := (0, 0, 0, 0, 0)) (mi_k27.2 _ _ (by rfl)) (by rfl) (ksG51 _ _ _ _) (hG.I.2.1 51) rfl (ow4 z11.1) (ow5 fi_3200.2 z11.2) ?_
      first | refine fo_goS mi_k27 fz27_58_1_62 [.int ((a 51).getD x1.toNatClampNeg 0)] (by rfl) ?_ | refine fo_goS mi_k27 fz27_61_1_62 [.int ((a 51).getD x1.toNatClampNeg 0)] (by rfl) ?_
      have bw14 : ¬ (x2.toInt = 4) := (ow406 z13)
      have bw15 : ¬ (x2.toInt = 5) := (ow407 z13)
      have bw16 : ¬ (x2.toInt = 6) := (ow408 z13)
      have bw17 : ((0 : Int) ≤ x1.toInt) ∧ (x1.toInt < (i 3200).toInt) := (ow409 z11.1 z11.2)
      have bw18 : x2.toInt = 0 := (ow41 z13)
      exact ft_ret mi_k27 (by rfl) (hP ((a 51).getD x1.toNatClampNeg 0) ⟨trivial, (show ((a 51).getD x1.toNatClampNeg 0) = cGet (i 3200) x1 x2 (a 51, a 52, a 53, a 54, i 3206, i 3207, i 3208) from (by unfold cGet; simp only [if_neg bw14, if_neg bw15, if_neg bw16, if_pos bw17, if_pos bw18]; first | done | rfl | (simp only [sMn, sMx]; done) | (simp only [sMn, sMx]; rfl)))⟩)
    ·
      subst eg12
      have z19 : x2.toInt = 1 := hg12
      refine fo_goS mi_k27 fz27_56_1_57 [.int x1, .ref 52] rfl ?_
      refine ko_iald3 mi_k27.1 (n := 8) (c := 8) (ax := (0, 0, 0, 0, 0)) (mi_k27.2 _ _ (by rfl)) (by rfl) (ksG52 _ _ _ _) (hG.I.2.1 52) rfl (ow4 z11.1) (ow5 fi_3200.2 z11.2) ?_
      first | refine fo_goS mi_k27 fz27_58_1_62 [.int ((a 52).getD x1.toNatClampNeg 0)] (by rfl) ?_ | refine fo_goS mi_k27 fz27_61_1_62 [.int ((a 52).getD x1.toNatClampNeg 0)] (by rfl) ?_
      have bw20 : ¬ (x2.toInt = 4) := (ow410 z19)
      have bw21 : ¬ (x2.toInt = 5) := (ow411 z19)
      have bw22 : ¬ (x2.toInt = 6) := (ow412 z19)
      have bw23 : ((0 : Int) ≤ x1.toInt) ∧ (x1.toInt < (i 3200).toInt) := (ow409 z11.1 z11.2)
      have bw24 : ¬ (x2.toInt = 0) := (ow413 z19)
      have bw25 : x2.toInt = 1 := (ow44 z19)
      exact ft_ret mi_k27 (by rfl) (hP ((a 52).getD x1.toNatClampNeg 0) ⟨trivial, (show ((a 52).getD x1.toNatClampNeg 0) = cGet (i 3200) x1 x2 (a 51, a 52, a 53, a 54, i 3206, i 3207, i 3208) from (by unfold cGet; simp only [if_neg bw20, if_neg bw21, if_neg bw22, if_pos bw23, if_neg bw24, if_pos bw25]; first | done | rfl | (simp only [sMn, sMx]; done) | (simp only [sMn, sMx]; rfl)))⟩)
    ·
      subst eg12
      have z26 : x2.toInt = 2 := hg12
      refine fo_goS mi_k27 fz27_56_1_57 [.int x1, .ref 53] rfl ?_
      refine ko_iald3 mi_k27.1 (n := 8) (c := 8) (ax := (0, 0, 0, 0, 0)) (mi_k27.2 _ _ (by rfl)) (by rfl) (ksG53 _ _ _ _) (hG.I.2.1 53) rfl (ow4 z11.1) (ow5 fi_3200.2 z11.2) ?_
      first | refine fo_goS mi_k27 fz27_58_1_62 [.int ((a 53).getD x1.toNatClampNeg 0)] (by rfl) ?_ | refine fo_goS mi_k27 fz27_61_1_62 [.int ((a 53).getD x1.toNatClampNeg 0)] (by rfl) ?_
      have bw27 : ¬ (x2.toInt = 4) := (ow414 z26)
      have bw28 : ¬ (x2.toInt = 5) := (ow415 z26)
      have bw29 : ¬ (x2.toInt = 6) := (ow416 z26)
      have bw30 : ((0 : Int) ≤ x1.toInt) ∧ (x1.toInt < (i 3200).toInt) := (ow409 z11.1 z11.2)
      have bw31 : ¬ (x2.toInt = 0) := (ow417 z26)
      have bw32 : ¬ (x2.toInt = 1) := (ow418 z26)
      have bw33 : x2.toInt = 2 := (ow55 z26)
      exact ft_ret mi_k27 (by rfl) (hP ((a 53).getD x1.toNatClampNeg 0) ⟨trivial, (show ((a 53).getD x1.toNatClampNeg 0) = cGet (i 3200) x1 x2 (a 51, a 52, a 53, a 54, i 3206, i 3207, i 3208) from (by unfold cGet; simp only [if_neg bw27, if_neg bw28, if_neg bw29, if_pos bw30, if_neg bw31, if_neg bw32, if_pos bw33]; first | done | rfl | (simp only [sMn, sMx]; done) | (simp only [sMn, sMx]; rfl)))⟩)
    ·
      subst eg12
      have z34 : (x2.toInt ≠ 0) ∧ (x2.toInt ≠ 1) ∧ (x2.toInt ≠ 2) := hg12
      refine fo_goS mi_k27 fz27_56_1_57 [.int x1, .ref 54] rfl ?_
      refine ko_iald3 mi_k27.1 (n := 8) (c := 8) (ax := (0, 0, 0, 0, 0)) (mi_k27.2 _ _ (by rfl)) (by rfl) (ksG54 _ _ _ _) (hG.I.2.1 54) rfl (ow4 z11.1) (ow5 fi_3200.2 z11.2) ?_
      first | refine fo_goS mi_k27 fz27_58_1_62 [.int ((a 54).getD x1.toNatClampNeg 0)] (by rfl) ?_ | refine fo_goS mi_k27 fz27_61_1_62 [.int ((a 54).getD x1.toNatClampNeg 0)] (by rfl) ?_
      have bw35 : ¬ (x2.toInt = 4) := (ow419 w1)
      have bw36 : ¬ (x2.toInt = 5) := (ow420 w1 w3)
      have bw37 : ¬ (x2.toInt = 6) := (ow421 w1 w3 w6)
      have bw38 : ((0 : Int) ≤ x1.toInt) ∧ (x1.toInt < (i 3200).toInt) := (ow409 z11.1 z11.2)
      have bw39 : ¬ (x2.toInt = 0) := (ow422 z34.1)
      have bw40 : ¬ (x2.toInt = 1) := (ow423 z34.1 z34.2.1)
      have bw41 : ¬ (x2.toInt = 2) := (ow424 z34.1 z34.2.1 z34.2.2)
      exact ft_ret mi_k27 (by rfl) (hP ((a 54).getD x1.toNatClampNeg 0) ⟨trivial, (show ((a 54).getD x1.toNatClampNeg 0) = cGet (i 3200) x1 x2 (a 51, a 52, a 53, a 54, i 3206, i 3207, i 3208) from (by unfold cGet; simp only [if_neg bw35, if_neg bw36, if_neg bw37, if_pos bw38, if_neg bw39, if_neg bw40, if_neg bw41]; first | done | rfl | (simp only [sMn, sMx]; done) | (simp only [sMn, sMx]; rfl)))⟩)
  ·
    subst eg10
    have z42 : ¬ (((0 : Int) ≤ x1.toInt) ∧ (x1.toInt < (i 3200).toInt)) := hg10
    first | refine fo_goS mi_k27 fz27_48_2_62 [.int (-1)] (by rfl) ?_ | refine ft_goS mi_k27 2 62 [.int (-1)] (by rfl) ?_
    have bw43 : ¬ (x2.toInt = 4) := (ow419 w1)
    have bw44 : ¬ (x2.toInt = 5) := (ow420 w1 w3)
    have bw45 : ¬ (x2.toInt = 6) := (ow421 w1 w3 w6)
    have bw46 : ¬ (((0 : Int) ≤ x1.toInt) ∧ (x1.toInt < (i 3200).toInt)) := (ow425 z42)
    exact ft_ret mi_k27 (by rfl) (hP (-1) ⟨trivial, (show ((-1) : Int32) = cGet (i 3200) x1 x2 (a 51, a 52, a 53, a 54, i 3206, i 3207, i 3208) from (by unfold cGet; simp only [if_neg bw43, if_neg bw44, if_neg bw45, if_neg bw46]; first | done | rfl | (simp only [sMn, sMx]; done) | (simp only [sMn, sMx]; rfl)))⟩)
end
section
/-! what the contracts say, by names -/
noncomputable def pt_ke29_50 (x1 : Int32) (v : Int32) (i : Nat → Int32) (a : Nat → List Int32) (q : Nat → List Int64) (r : Nat → Nat) (i1 : Nat → Int32) (a1 : Nat → List Int32) (q1 : Nat → List Int64) (r1 : Nat → Nat) : Prop := (True) ∧ ((((0 : Int) ≤ x1.toInt) ∧ (x1.toInt < (i 3200).toInt) ∧ (¬ (((i 3207).toInt = 0) ∧ (((a 54).getD x1.toNatClampNeg 0).toInt = 1))) → i1 3586 = (cPaid (i 3200) (i 3206) x1 5 (cT0 50 i a)).1 + 1) ∧ (((0 : Int) ≤ x1.toInt) ∧ (x1.toInt < (i 3200).toInt) ∧ (¬ (((i 3207).toInt = 0) ∧ (((a 54).getD x1.toNatClampNeg 0).toInt = 1))) → a1 57 = (cPaid (i 3200) (i 3206) x1 5 (cT0 50 i a)).2.1.set (cPaid (i 3200) (i 3206) x1 5 (cT0 50 i a)).1.toNatClampNeg x1) ∧ (((0 : Int) ≤ x1.toInt) ∧ (x1.toInt < (i 3200).toInt) ∧ (¬ (((i 3207).toInt = 0) ∧ (((a 54).getD x1.toNatClampNeg 0).toInt = 1))) → a1 58 = (cPaid (i 3200) (i 3206) x1 5 (cT0 50 i a)).2.2.1.set (cPaid (i 3200) (i 3206) x1 5 (cT0 50 i a)).1.toNatClampNeg (cBuyV (i (64 * r 1)) (a (r 1 + 1)) (a (r 1 + 2)) (a (r 1 + 3)) (i (64 * r 1 + 3)) ((a 52).getD x1.toNatClampNeg 0) ((a 51).getD x1.toNatClampNeg 0) ((a 53).getD x1.toNatClampNeg 0) (i 3209) ((a 55).getD x1.toNatClampNeg 0) (i 3208))) ∧ (((0 : Int) ≤ x1.toInt) ∧ (x1.toInt < (i 3200).toInt) ∧ (¬ (((i 3207).toInt = 0) ∧ (((a 54).getD x1.toNatClampNeg 0).toInt = 1))) → a1 51 = (cPaid (i 3200) (i 3206) x1 5 (cT0 50 i a)).2.2.2.1) ∧ (((0 : Int) ≤ x1.toInt) ∧ (x1.toInt < (i 3200).toInt) ∧ (¬ (((i 3207).toInt = 0) ∧ (((a 54).getD x1.toNatClampNeg 0).toInt = 1))) → i1 3214 = (cPaid (i 3200) (i 3206) x1 5 (cT0 50 i a)).2.2.2.2.1) ∧ (((0 : Int) ≤ x1.toInt) ∧ (x1.toInt < (i 3200).toInt) ∧ (¬ (((i 3207).toInt = 0) ∧ (((a 54).getD x1.toNatClampNeg 0).toInt = 1))) → i1 3215 = (cPaid (i 3200) (i 3206) x1 5 (cT0 50 i a)).2.2.2.2.2.1) ∧ (((0 : Int) ≤ x1.toInt) ∧ (x1.toInt < (i 3200).toInt) ∧ (¬ (((i 3207).toInt = 0) ∧ (((a 54).getD x1.toNatClampNeg 0).toInt = 1))) → i1 3216 = (cBuyV (i (64 * r 1)) (a (r 1 + 1)) (a (r 1 + 2)) (a (r 1 + 3)) (i (64 * r 1 + 3)) ((a 52).getD x1.toNatClampNeg 0) ((a 51).getD x1.toNatClampNeg 0) ((a 53).getD x1.toNatClampNeg 0) (i 3209) ((a 55).getD x1.toNatClampNeg 0) (i 3208))) ∧ (((0 : Int) ≤ x1.toInt) ∧ (x1.toInt < (i 3200).toInt) ∧ (¬ (((i 3207).toInt = 0) ∧ (((a 54).getD x1.toNatClampNeg 0).toInt = 1))) → i1 3209 = i 3209 + 1) ∧ (((0 : Int) ≤ x1.toInt) ∧ (x1.toInt < (i 3200).toInt) ∧ (¬ (((i 3207).toInt = 0) ∧ (((a 54).getD x1.toNatClampNeg 0).toInt = 1))) → a1 55 = (a 55).set x1.toNatClampNeg ((a 55).getD x1.toNatClampNeg 0 + 1)) ∧ (((0 : Int) ≤ x1.toInt) ∧ (x1.toInt < (i 3200).toInt) ∧ (¬ (((i 3207).toInt = 0) ∧ (((a 54).getD x1.toNatClampNeg 0).toInt = 1))) → a1 63 = ((cPaid (i 3200) (i 3206) x1 5 (cT0 50 i a)).2.2.2.2.2.2.1.set (0 : Int32).toNatClampNeg ((cPaid (i 3200) (i 3206) x1 5 (cT0 50 i a)).2.2.2.2.2.2.1.getD (0 : Int32).toNatClampNeg 0 + 1)).set (1 : Int32).toNatClampNeg (((cPaid (i 3200) (i 3206) x1 5 (cT0 50 i a)).2.2.2.2.2.2.1.set (0 : Int32).toNatClampNeg ((cPaid (i 3200) (i 3206) x1 5 (cT0 50 i a)).2.2.2.2.2.2.1.getD (0 : Int32).toNatClampNeg 0 + 1)).getD (1 : Int32).toNatClampNeg 0 + (cPaid (i 3200) (i 3206) x1 5 (cT0 50 i a)).2.2.2.2.2.1)) ∧ (((0 : Int) ≤ x1.toInt) ∧ (x1.toInt < (i 3200).toInt) ∧ (¬ (((i 3207).toInt = 0) ∧ (((a 54).getD x1.toNatClampNeg 0).toInt = 1))) → v = (cPaid (i 3200) (i 3206) x1 5 (cT0 50 i a)).2.2.2.2.2.1) ∧ (((0 : Int) ≤ x1.toInt) ∧ (x1.toInt < (i 3200).toInt) ∧ (¬ (((i 3207).toInt = 0) ∧ (((a 54).getD x1.toNatClampNeg 0).toInt = 1))) → a1 65 = (cPaid (i 3200) (i 3206) x1 5 (cT0 50 i a)).2.2.2.2.2.2.2 0) ∧ (((0 : Int) ≤ x1.toInt) ∧ (x1.toInt < (i 3200).toInt) ∧ (¬ (((i 3207).toInt = 0) ∧ (((a 54).getD x1.toNatClampNeg 0).toInt = 1))) → a1 66 = (cPaid (i 3200) (i 3206) x1 5 (cT0 50 i a)).2.2.2.2.2.2.2 1) ∧ (((0 : Int) ≤ x1.toInt) ∧ (x1.toInt < (i 3200).toInt) ∧ (¬ (((i 3207).toInt = 0) ∧ (((a 54).getD x1.toNatClampNeg 0).toInt = 1))) → a1 67 = (cPaid (i 3200) (i 3206) x1 5 (cT0 50 i a)).2.2.2.2.2.2.2 2) ∧ (((0 : Int) ≤ x1.toInt) ∧ (x1.toInt < (i 3200).toInt) ∧ (¬ (((i 3207).toInt = 0) ∧ (((a 54).getD x1.toNatClampNeg 0).toInt = 1))) → a1 68 = (cPaid (i 3200) (i 3206) x1 5 (cT0 50 i a)).2.2.2.2.2.2.2 3) ∧ (((0 : Int) ≤ x1.toInt) ∧ (x1.toInt < (i 3200).toInt) ∧ (¬ (((i 3207).toInt = 0) ∧ (((a 54).getD x1.toNatClampNeg 0).toInt = 1))) → a1 69 = (cPaid (i 3200) (i 3206) x1 5 (cT0 50 i a)).2.2.2.2.2.2.2 4) ∧ (((0 : Int) ≤ x1.toInt) ∧ (x1.toInt < (i 3200).toInt) ∧ (¬ (((i 3207).toInt = 0) ∧ (((a 54).getD x1.toNatClampNeg 0).toInt = 1))) → a1 70 = (cPaid (i 3200) (i 3206) x1 5 (cT0 50 i a)).2.2.2.2.2.2.2 5) ∧ (((0 : Int) ≤ x1.toInt) ∧ (x1.toInt < (i 3200).toInt) ∧ (¬ (((i 3207).toInt = 0) ∧ (((a 54).getD x1.toNatClampNeg 0).toInt = 1))) → a1 71 = (cPaid (i 3200) (i 3206) x1 5 (cT0 50 i a)).2.2.2.2.2.2.2 6) ∧ (((0 : Int) ≤ x1.toInt) ∧ (x1.toInt < (i 3200).toInt) ∧ (¬ (((i 3207).toInt = 0) ∧ (((a 54).getD x1.toNatClampNeg 0).toInt = 1))) → a1 72 = (cPaid (i 3200) (i 3206) x1 5 (cT0 50 i a)).2.2.2.2.2.2.2 7) ∧ (¬ (((0 : Int) ≤ x1.toInt) ∧ (x1.toInt < (i 3200).toInt) ∧ (¬ (((i 3207).toInt = 0) ∧ (((a 54).getD x1.toNatClampNeg 0).toInt = 1)))) → i1 3586 = i 3586) ∧ (¬ (((0 : Int) ≤ x1.toInt) ∧ (x1.toInt < (i 3200).toInt) ∧ (¬ (((i 3207).toInt = 0) ∧ (((a 54).getD x1.toNatClampNeg 0).toInt = 1)))) → a1 57 = a 57) ∧ (¬ (((0 : Int) ≤ x1.toInt) ∧ (x1.toInt < (i 3200).toInt) ∧ (¬ (((i 3207).toInt = 0) ∧ (((a 54).getD x1.toNatClampNeg 0).toInt = 1)))) → a1 58 = a 58) ∧ (¬ (((0 : Int) ≤ x1.toInt) ∧ (x1.toInt < (i 3200).toInt) ∧ (¬ (((i 3207).toInt = 0) ∧ (((a 54).getD x1.toNatClampNeg 0).toInt = 1)))) → a1 51 = a 51) ∧ (¬ (((0 : Int) ≤ x1.toInt) ∧ (x1.toInt < (i 3200).toInt) ∧ (¬ (((i 3207).toInt = 0) ∧ (((a 54).getD x1.toNatClampNeg 0).toInt = 1)))) → a1 55 = a 55) ∧ (¬ (((0 : Int) ≤ x1.toInt) ∧ (x1.toInt < (i 3200).toInt) ∧ (¬ (((i 3207).toInt = 0) ∧ (((a 54).getD x1.toNatClampNeg 0).toInt = 1)))) → a1 63 = a 63) ∧ (¬ (((0 : Int) ≤ x1.toInt) ∧ (x1.toInt < (i 3200).toInt) ∧ (¬ (((i 3207).toInt = 0) ∧ (((a 54).getD x1.toNatClampNeg 0).toInt = 1)))) → i1 3214 = 8) ∧ (¬ (((0 : Int) ≤ x1.toInt) ∧ (x1.toInt < (i 3200).toInt) ∧ (¬ (((i 3207).toInt = 0) ∧ (((a 54).getD x1.toNatClampNeg 0).toInt = 1)))) → i1 3215 = 0) ∧ (¬ (((0 : Int) ≤ x1.toInt) ∧ (x1.toInt < (i 3200).toInt) ∧ (¬ (((i 3207).toInt = 0) ∧ (((a 54).getD x1.toNatClampNeg 0).toInt = 1)))) → i1 3216 = 0) ∧ (¬ (((0 : Int) ≤ x1.toInt) ∧ (x1.toInt < (i 3200).toInt) ∧ (¬ (((i 3207).toInt = 0) ∧ (((a 54).getD x1.toNatClampNeg 0).toInt = 1)))) → i1 3209 = i 3209) ∧ (¬ (((0 : Int) ≤ x1.toInt) ∧ (x1.toInt < (i 3200).toInt) ∧ (¬ (((i 3207).toInt = 0) ∧ (((a 54).getD x1.toNatClampNeg 0).toInt = 1)))) → v = 0) ∧ (¬ (((0 : Int) ≤ x1.toInt) ∧ (x1.toInt < (i 3200).toInt) ∧ (¬ (((i 3207).toInt = 0) ∧ (((a 54).getD x1.toNatClampNeg 0).toInt = 1)))) → a1 65 = a 65) ∧ (¬ (((0 : Int) ≤ x1.toInt) ∧ (x1.toInt < (i 3200).toInt) ∧ (¬ (((i 3207).toInt = 0) ∧ (((a 54).getD x1.toNatClampNeg 0).toInt = 1)))) → a1 66 = a 66) ∧ (¬ (((0 : Int) ≤ x1.toInt) ∧ (x1.toInt < (i 3200).toInt) ∧ (¬ (((i 3207).toInt = 0) ∧ (((a 54).getD x1.toNatClampNeg 0).toInt = 1)))) → a1 67 = a 67) ∧ (¬ (((0 : Int) ≤ x1.toInt) ∧ (x1.toInt < (i 3200).toInt) ∧ (¬ (((i 3207).toInt = 0) ∧ (((a 54).getD x1.toNatClampNeg 0).toInt = 1)))) → a1 68 = a 68) ∧ (¬ (((0 : Int) ≤ x1.toInt) ∧ (x1.toInt < (i 3200).toInt) ∧ (¬ (((i 3207).toInt = 0) ∧ (((a 54).getD x1.toNatClampNeg 0).toInt = 1)))) → a1 69 = a 69) ∧ (¬ (((0 : Int) ≤ x1.toInt) ∧ (x1.toInt < (i 3200).toInt) ∧ (¬ (((i 3207).toInt = 0) ∧ (((a 54).getD x1.toNatClampNeg 0).toInt = 1)))) → a1 70 = a 70) ∧ (¬ (((0 : Int) ≤ x1.toInt) ∧ (x1.toInt < (i 3200).toInt) ∧ (¬ (((i 3207).toInt = 0) ∧ (((a 54).getD x1.toNatClampNeg 0).toInt = 1)))) → a1 71 = a 71) ∧ (¬ (((0 : Int) ≤ x1.toInt) ∧ (x1.toInt < (i 3200).toInt) ∧ (¬ (((i 3207).toInt = 0) ∧ (((a 54).getD x1.toNatClampNeg 0).toInt = 1)))) → a1 72 = a 72))
noncomputable def pt_ke34_50_1  (i : Nat → Int32) (a : Nat → List Int32) (q : Nat → List Int64) (r : Nat → Nat) (i1 : Nat → Int32) (a1 : Nat → List Int32) (q1 : Nat → List Int64) (r1 : Nat → Nat) : Prop := (True) ∧ ((a1 51 = mi_cpy (a 2) (a 51) (0 : Int32).toNatClampNeg (0 : Int32).toNatClampNeg (sMx 0 (sMn 8 8)).toNatClampNeg ∧ a1 55 = mi_cpy (a 6) (a 55) (0 : Int32).toNatClampNeg (0 : Int32).toNatClampNeg (sMx 0 (sMn 8 8)).toNatClampNeg ∧ a1 63 = List.replicate 5 0 ∧ i1 3208 = i 72 ∧ i1 3209 = i 73 ∧ a1 57 = mi_cpy (a 8) (a 57) (0 : Int32).toNatClampNeg (0 : Int32).toNatClampNeg (5 : Int32).toNatClampNeg ∧ a1 58 = mi_cpy (a 9) (a 58) (0 : Int32).toNatClampNeg (0 : Int32).toNatClampNeg (5 : Int32).toNatClampNeg ∧ i1 3586 = i 450 ∧ i1 3200 = i 64 ∧ a1 52 = mi_cpy (a 3) (a 52) (0 : Int32).toNatClampNeg (0 : Int32).toNatClampNeg (8 : Int32).toNatClampNeg ∧ a1 53 = mi_cpy (a 4) (a 53) (0 : Int32).toNatClampNeg (0 : Int32).toNatClampNeg (8 : Int32).toNatClampNeg ∧ a1 54 = mi_cpy (a 5) (a 54) (0 : Int32).toNatClampNeg (0 : Int32).toNatClampNeg (8 : Int32).toNatClampNeg ∧ i1 3206 = i 70 ∧ i1 3207 = i 71) ∧ (kZ8 a1 ∧ r1 1 = r 0))
noncomputable def pt_ke166_116 (x1 : Int32) (v : Int32) (i : Nat → Int32) (a : Nat → List Int32) (q : Nat → List Int64) (r : Nat → Nat) (i1 : Nat → Int32) (a1 : Nat → List Int32) (q1 : Nat → List Int64) (r1 : Nat → Nat) : Prop := (((v.toInt = 1) ∧ (¬ ((((a 117).getD (16 + x1).toNatClampNeg 0).toInt = 1) ∧ ((i 7427).toInt = 0)))) ∨ ((v.toInt = 0) ∧ (((a 117).getD (16 + x1).toNatClampNeg 0).toInt = 1) ∧ ((i 7427).toInt = 0))) ∧ ((¬ ((((a 117).getD (16 + x1).toNatClampNeg 0).toInt = 1) ∧ ((i 7427).toInt = 0)) → a1 118 = sCome x1 (gBuy (i 7431) (a 120) (a 121) (a 122) (a 123) (i 7432) (a 117) (a 118) (gPaid (i 7426) x1 (a 118) (i 7467) (a 141)).1 x1) (gPaid (i 7426) x1 (a 118) (i 7467) (a 141)).1) ∧ (¬ ((((a 117).getD (16 + x1).toNatClampNeg 0).toInt = 1) ∧ ((i 7427).toInt = 0)) → i1 7464 = (gPaid (i 7426) x1 (a 118) (i 7467) (a 141)).2.1) ∧ (¬ ((((a 117).getD (16 + x1).toNatClampNeg 0).toInt = 1) ∧ ((i 7427).toInt = 0)) → i1 7465 = (gPaid (i 7426) x1 (a 118) (i 7467) (a 141)).2.2.1) ∧ (¬ ((((a 117).getD (16 + x1).toNatClampNeg 0).toInt = 1) ∧ ((i 7427).toInt = 0)) → i1 7466 = (gBuy (i 7431) (a 120) (a 121) (a 122) (a 123) (i 7432) (a 117) (a 118) (gPaid (i 7426) x1 (a 118) (i 7467) (a 141)).1 x1)) ∧ (¬ ((((a 117).getD (16 + x1).toNatClampNeg 0).toInt = 1) ∧ ((i 7427).toInt = 0)) → i1 7467 = (gPaid (i 7426) x1 (a 118) (i 7467) (a 141)).2.2.2.1) ∧ (¬ ((((a 117).getD (16 + x1).toNatClampNeg 0).toInt = 1) ∧ ((i 7427).toInt = 0)) → a1 141 = (gPaid (i 7426) x1 (a 118) (i 7467) (a 141)).2.2.2.2) ∧ ((((a 117).getD (16 + x1).toNatClampNeg 0).toInt = 1) ∧ ((i 7427).toInt = 0) → a1 118 = a 118) ∧ ((((a 117).getD (16 + x1).toNatClampNeg 0).toInt = 1) ∧ ((i 7427).toInt = 0) → i1 7464 = 8) ∧ ((((a 117).getD (16 + x1).toNatClampNeg 0).toInt = 1) ∧ ((i 7427).toInt = 0) → i1 7465 = 0) ∧ ((((a 117).getD (16 + x1).toNatClampNeg 0).toInt = 1) ∧ ((i 7427).toInt = 0) → i1 7466 = 0) ∧ ((((a 117).getD (16 + x1).toNatClampNeg 0).toInt = 1) ∧ ((i 7427).toInt = 0) → i1 7467 = i 7467) ∧ ((((a 117).getD (16 + x1).toNatClampNeg 0).toInt = 1) ∧ ((i 7427).toInt = 0) → a1 141 = a 141))
end
section
/-! ONE COMES IN, IN THOUGHT: the class's market follows the reference's steps -/
section TC
variable {i i1 : Nat → Int32} {a a1 : Nat → List Int32} {q q1 : Nat → List Int64} {r r1 : Nat → Nat} {S : gS} {x1 v : Int32}
theorem rw8 {a1 : Nat → List Int32} {F : Nat → List Int32} (h0 : a1 65 = F 0) (h1 : a1 66 = F 1) (h2 : a1 67 = F 2) (h3 : a1 68 = F 3) (h4 : a1 69 = F 4) (h5 : a1 70 = F 5) (h6 : a1 71 = F 6) (h7 : a1 72 = F 7) : ∀ u : Nat, u < 8 → a1 (50 + 15 + u) = F u
  | 0, _ => h0
  | 1, _ => h1
  | 2, _ => h2
  | 3, _ => h3
  | 4, _ => h4
  | 5, _ => h5
  | 6, _ => h6
  | 7, _ => h7
  | u + 8, h => absurd h (by omega)
theorem thc_fr {w : kW} (g : kG w i a q r i1 a1 q1 r1) (f : kUn w [3200, 64, 3206, 70, 3207, 71] [52, 3, 53, 4, 54, 5] [0, 1] = true) (h : kThC i a r) : kThC i1 a1 r1 := by
  obtain ⟨f1, f2, f3⟩ := kUn_all f
  obtain ⟨c1, c2, c3, c4, c5, c6, c7⟩ := h
  refine ⟨?_, ?_, ?_, ?_, ?_, ?_, ?_⟩
  · rw [g.fi _ (f1 3200 (by decide)), g.fi _ (f1 64 (by decide))]; exact c1
  · rw [g.fi _ (f1 3206 (by decide)), g.fi _ (f1 70 (by decide))]; exact c2
  · rw [g.fi _ (f1 3207 (by decide)), g.fi _ (f1 71 (by decide))]; exact c3
  · rw [g.fa _ (f2 52 (by decide)), g.fa _ (f2 3 (by decide))]; exact c4
  · rw [g.fa _ (f2 53 (by decide)), g.fa _ (f2 4 (by decide))]; exact c5
  · rw [g.fa _ (f2 54 (by decide)), g.fa _ (f2 5 (by decide))]; exact c6
  · rw [g.fr _ (f3 0 (by decide)), g.fr _ (f3 1 (by decide))]; exact c7
set_option maxHeartbeats 4000000 in
theorem th_come (hI : kI i a q) (hr : kr r) (hN : kNoW i a r) (hT : kThm i a r S) (hx0 : 0 ≤ x1.toInt) (hx1 : x1.toInt < (i 3200).toInt) (g : kG yw29_50 i a q r i1 a1 q1 r1) (P : pt_ke29_50 x1 v i a q r i1 a1 q1 r1) : kThm i1 a1 r1 (gIn (gKn i a) x1 S) ∧ v = (gIn (gKn i a) x1 S).2.2.1 := by
  obtain ⟨N, py, pd, bo, la, Fl⟩ := S
  obtain ⟨n1, n2, n3, n4⟩ := hN
  obtain ⟨hC, hb, ⟨L0, hP⟩, hF, hD⟩ := hT
  have kC := thc_fr g (by decide +kernel) hC
  obtain ⟨c1, c2, c3, c4, c5, c6, c7⟩ := hC
  have b8 := kI_64 hI
  have t5 := kI_3rd hI
  have hx1' : x1.toInt < (i 64).toInt := by rw [← c1]; exact hx1
  have t3 : i 70 = i 7426 := n3.2.2.1
  obtain ⟨de, dg⟩ := dog_eq n3 hx0 (by omega : x1.toInt < 8)
  obtain ⟨hp1, hp2, hp3, hp4, hp5, hp6, hp7, hp8⟩ := hP
  have hp1 : mNow (i 64) (a 51) (a 55) (i 3208) (i 3209) (i 3586) (a 57) (a 58) N := hp1
  have hp4 : (a 63).getD 2 0 = 0 + la := hp4
  have hp7 : N.length = 31 := hp7
  have hp8 : Fl.length = 64 := hp8
  have op : i 3586 = N.getD 18 0 := mNow_18 hp1
  have o5 : (0 : Int) ≤ (i 3586).toInt ∧ (i 3586).toInt ≤ 5 := hI.1 3586
  have e64 : i1 64 = i 64 := g.fi 64 rfl
  have e08 : i1 3208 = i 3208 := g.fi 3208 rfl
  by_cases hd : (i 3207).toInt = 0 ∧ ((a 54).getD x1.toNatClampNeg 0).toInt = 1
  · have hn : ¬ (((0 : Int) ≤ x1.toInt) ∧ (x1.toInt < (i 3200).toInt) ∧ (¬ (((i 3207).toInt = 0) ∧ (((a 54).getD x1.toNatClampNeg 0).toInt = 1)))) := fun z => z.2.2 hd
    have eg : gIn (gKn i a) x1 (N, py, pd, bo, la, Fl) = (N, 8, 0, 0, la, Fl) := if_pos ⟨by show ((a 117).getD (16 + x1).toNatClampNeg 0).toInt = 1; rw [← de, ← c6]; exact hd.2, by show (i 7427).toInt = 0; rw [← dg, ← c3]; exact hd.1⟩
    obtain ⟨_, _, _, _, _, _, _, _, _, _, _, _, _, _, _, _, _, _, _, _, m1, m2, m3, m4, m5, m6, m7, m8, m9, m10, m11, u0, u1, u2, u3, u4, u5, u6, u7⟩ := P
    rw [eg]
    have eT : cT 50 i1 a1 = (i 3586, a 57, a 58, a 51, 8, 0, a 63, cRow 50 a) := cT_eq (m1 hn) (m2 hn) (m3 hn) (m4 hn) (m7 hn) (m8 hn) (m6 hn) (rw8 (F := cRow 50 a) (u0 hn) (u1 hn) (u2 hn) (u3 hn) (u4 hn) (u5 hn) (u6 hn) (u7 hn)) (fun u hu => cRow_ge hu)
    refine ⟨⟨kC, m9 hn, ⟨L0, ?_⟩, ?_⟩, m11 hn⟩
    · rw [eT, e64, m5 hn, e08, m10 hn]
      exact ⟨hp1, rfl, rfl, hp4, hp5, hp6, hp7, hp8⟩
    · rw [eT]
      exact ⟨hF, hD⟩
  · have hC2 : ((0 : Int) ≤ x1.toInt) ∧ (x1.toInt < (i 3200).toInt) ∧ (¬ (((i 3207).toInt = 0) ∧ (((a 54).getD x1.toNatClampNeg 0).toInt = 1))) := ⟨hx0, hx1, hd⟩
    have eg : gIn (gKn i a) x1 (N, py, pd, bo, la, Fl) = gCo (gKn i a) x1 N (gPaid (i 7426) x1 N la Fl) := if_neg (fun z => hd ⟨by rw [c3, dg]; exact z.2, by rw [c6, de]; exact z.1⟩)
    obtain ⟨_, m1, m2, m3, m4, m5, m6, m7, m8, m9, m10, m11, u0, u1, u2, u3, u4, u5, u6, u7, _⟩ := P
    have k1 := m1 hC2
    have k2 := m2 hC2
    have k3 := m3 hC2
    have k4 := m4 hC2
    have k5 := m5 hC2
    have k6 := m6 hC2
    have k7 := m7 hC2
    have k8 := m8 hC2
    have k9 := m9 hC2
    have k10 := m10 hC2
    have k11 := m11 hC2
    have w := rw8 (a1 := a1) (F := (cPaid (i 3200) (i 3206) x1 5 (cT0 50 i a)).2.2.2.2.2.2.2) (u0 hC2) (u1 hC2) (u2 hC2) (u3 hC2) (u4 hC2) (u5 hC2) (u6 hC2) (u7 hC2)
    clear m1 m2 m3 m4 m5 m6 m7 m8 m9 m10 m11 u0 u1 u2 u3 u4 u5 u6 u7
    have hP0 : mP (i 64) 0 L0 (a 55) (i 3208) (i 3209) (cT0 50 i a) (N, 8, 0, la, Fl) := ⟨hp1, rfl, rfl, hp4, hp5, hp6, hp7, hp8⟩
    have tb := Int32.toNat_toInt x1
    obtain ⟨p1, p2, p3⟩ := paid_same (b := i 64) (c := x1) (t3 := i 7426) b8.2 hx0 hx1' t5.1 5 (N.getD 18 0).toInt.toNat (cT0 50 i a) (N, 8, 0, la, Fl) hP0 (show (i 3586).toInt ≤ 5 by omega) (show (i 3586).toInt ≤ ((N.getD 18 0).toInt.toNat : Int) by rw [op] at o5 ⊢; omega) (show (i 3586).toInt ≤ 5 by omega) (show 0 ≤ (i 3586).toInt by omega)
    have p3 := p3 hF
    have pD : kDg (cPaid (i 64) (i 7426) x1 5 (cT0 50 i a)) := cPaid_dg hx0 5 hD
    rw [c1, c2, t3] at k1 k2 k3 k4 k5 k6 k10 k11 w
    have egp : gPaid (i 7426) x1 N la Fl = sPaid (i 7426) x1 (N.getD 18 0).toInt.toNat (N, 8, 0, la, Fl) := rfl
    rw [eg, egp]
    clear eg egp hP0 hp5 hp6 hF
    generalize cPaid (i 64) (i 7426) x1 5 (cT0 50 i a) = T1 at *
    generalize sPaid (i 7426) x1 (N.getD 18 0).toInt.toNat (N, 8, 0, la, Fl) = S1 at *
    obtain ⟨z1, z2, z3, z4, z5, ⟨l1, l2, l3, l4, l5⟩, z7, z8⟩ := p1
    have be := th_buy (pu := (a 51).getD x1.toNatClampNeg 0) (N := N) (N1 := S1.1) hI hr n3 n4 hx0 (by omega : x1.toInt < 8) (hp1.1 _ (by omega)) z1.2.2.1.symm (z1.2.2.2.1 x1.toNatClampNeg (by omega)).symm z1.2.1.symm
    rw [c4, c5, c7, be] at k3 k7
    obtain ⟨y1, y2, y3⟩ := come_now (bu := gBy (gKn i a) N S1.1 x1) z1 b8.2 hx0 hx1' p2.2 (by omega) (kl_55 hI) l1 l2 z7
    unfold gCo
    refine ⟨⟨kC, k7, ⟨a1 63, ?_, ?_, ?_, ?_, fun _ _ => rfl, th_len g.I, y2, z8⟩, ?_⟩, ?_⟩
    · show mNow (i1 64) (a1 51) (a1 55) (i1 3208) (i1 3209) (i1 3586) (a1 57) (a1 58) (sCome x1 (gBy (gKn i a) N S1.1 x1) S1.1)
      rw [e64, k4, k9, e08, k8, k1, k2, k3]
      exact y1
    · show i1 3214 = S1.2.1
      rw [k5]; exact z2
    · show i1 3215 = S1.2.2.1
      rw [k6]; exact z3
    · show (a1 63).getD 2 0 = 0 + S1.2.2.2.1
      rw [k10, (by decide : (0 : Int32).toNatClampNeg = 0), (by decide : (1 : Int32).toNatClampNeg = 1), kset_gI (by rw [List.length_set]; omega), if_neg (by decide), kset_gI (by omega), if_neg (by decide)]
      exact z4
    · refine ⟨fun u c hu hc => ?_, fun u hu => ?_⟩
      · show (cRow 50 a1 u).getD c 0 = _
        rw [cRow_lt hu, w u hu]
        exact p3 u c hu hc
      · show (cRow 50 a1 u).getD u 0 = 0
        rw [cRow_lt hu, w u hu]
        exact pD u hu
    · rw [k11]; exact z3
theorem kg29_50 (hI : kI i a q) (hr : kr r) (x1 : Int32) (hp0 : ((0 : Int) ≤ x1.toInt) ∧ (x1.toInt < (i 3200).toInt)) (hN : kNoW i a r) (hT : kThm i a r S) : km 7 29 [.ref 50, .int x1] (ks i a q r) (kVI yw29_50 i a q r (fun v i1 a1 q1 r1 => (True) ∧ (kThm i1 a1 r1 (gIn (gKn i a) x1 S) ∧ v = (gIn (gKn i a) x1 S).2.2.1))) := by
  have e : i 3206 = i 7426 := hT.1.2.1.trans hN.2.2.1.2.2.1
  refine km_imp (ke29_50 hI hr x1 (by rw [e]; exact kI_3rd hI)) ?_
  rintro rv h1 ⟨v, i1, a1, q1, r1, e1, e2, g, hc⟩
  exact ⟨v, i1, a1, q1, r1, e1, e2, g, trivial, th_come hI hr hN hT hp0.1 hp0.2 g hc⟩
end TC
end
section
/-! THE CLASS'S MARKET IN THOUGHT BEGINS AS IT IS NOW; evenings; what is asked of it -/
noncomputable def gB (i : Nat → Int32) (a : Nat → List Int32) : gS := (a 118, i 3214, i 3215, i 3216, 0, List.replicate 64 0)
theorem rep_g {n j : Nat} : (List.replicate n (0 : Int32)).getD j 0 = 0 := by
  rw [List.getD_eq_getElem?_getD, List.getElem?_replicate]
  by_cases c : j < n
  · rw [if_pos c]; rfl
  · rw [if_neg c]; rfl
section HB
variable {i i1 : Nat → Int32} {a a1 : Nat → List Int32} {q q1 : Nat → List Int64} {r r1 : Nat → Nat} {S : gS} {x1 v : Int32}
theorem th_become (hI : kI i a q) (hN : kNoW i a r) (g : kG yw34_50_1 i a q r i1 a1 q1 r1) (P : pt_ke34_50_1 i a q r i1 a1 q1 r1) : kThm i1 a1 r1 (gB i a) := by
  obtain ⟨n1, n2, n3, n4⟩ := hN
  obtain ⟨_, ⟨m1, m2, m3, m4, m5, m6, m7, m8, m9, m10, m11, m12, m13, m14⟩, mz, mr⟩ := P
  have k8 : (sMx 0 (sMn 8 8)).toNatClampNeg = 8 := by decide
  have k5 : (5 : Int32).toNatClampNeg = 5 := by decide
  have k0 : (0 : Int32).toNatClampNeg = 0 := by decide
  have k8b : (8 : Int32).toNatClampNeg = 8 := by decide
  rw [k8, k0, cpy_alw (kl_2 hI) (kl_51 hI)] at m1
  rw [k8, k0, cpy_alw (kl_6 hI) (kl_55 hI)] at m2
  rw [k5, k0, cpy_alw (kl_8 hI) (kl_57 hI)] at m6
  rw [k5, k0, cpy_alw (kl_9 hI) (kl_58 hI)] at m7
  rw [k8b, k0, cpy_alw (kl_3 hI) (show (a 52).length = 8 from hI.2.1 52)] at m10
  rw [k8b, k0, cpy_alw (kl_4 hI) (show (a 53).length = 8 from hI.2.1 53)] at m11
  rw [k8b, k0, cpy_alw (kl_5 hI) (show (a 54).length = 8 from hI.2.1 54)] at m12
  refine ⟨⟨?_, ?_, ?_, ?_, ?_, ?_, ?_⟩, g.fi 3216 rfl, ⟨a1 63, ?_, ?_, ?_, ?_, fun _ _ => rfl, th_len g.I, kl_118 hI, List.length_replicate⟩, ?_⟩
  · rw [m9, g.fi 64 rfl]
  · rw [m13, g.fi 70 rfl]
  · rw [m14, g.fi 71 rfl]
  · rw [m10, g.fa 3 rfl]
  · rw [m11, g.fa 4 rfl]
  · rw [m12, g.fa 5 rfl]
  · rw [mr, g.fr 0 rfl]
  · show mNow (i1 64) (a1 51) (a1 55) (i1 3208) (i1 3209) (i1 3586) (a1 57) (a1 58) (a 118)
    rw [g.fi 64 rfl, m1, m2, m4, m5, m8, m6, m7]
    exact n2
  · exact g.fi 3214 rfl
  · exact g.fi 3215 rfl
  · show (a1 63).getD 2 0 = 0 + 0
    rw [m3, rep_g]
    decide
  · refine ⟨fun u c hu hc => ?_, fun u hu => ?_⟩
    · show (cRow 50 a1 u).getD c 0 = (List.replicate 64 (0 : Int32)).getD (8 * u + c) 0
      rw [cRow_lt hu, mz u hu, rep_g, rep_g]
    · show (cRow 50 a1 u).getD u 0 = 0
      rw [cRow_lt hu, mz u hu, rep_g]
theorem kg34_50_1 (hI : kI i a q) (hr : kr r) (hN : kNoW i a r) : km 5 34 [.ref 50, .ref 1] (ks i a q r) (kVN yw34_50_1 i a q r (fun i1 a1 q1 r1 => (True) ∧ kThm i1 a1 r1 (gB i a))) := by
  refine km_imp (ke34_50_1 hI hr) ?_
  rintro rv h1 ⟨i1, a1, q1, r1, e1, e2, g, hc⟩
  exact ⟨i1, a1, q1, r1, e1, e2, g, trivial, th_become hI hN g hc⟩
theorem cGet_pu {b x t g d : Int32} {P W H D : List Int32} (h0 : 0 ≤ x.toInt) (h1 : x.toInt < b.toInt) : cGet b x 0 (P, W, H, D, t, g, d) = P.getD x.toNatClampNeg 0 := by
  unfold cGet
  have k0 : (0 : Int32).toInt = 0 := by decide
  simp only [k0]
  simp [h0, h1]
theorem th_pu (hT : kThm i a r S) (h8 : (i 64).toInt ≤ 8) (h0 : 0 ≤ x1.toInt) (h1 : x1.toInt < (i 64).toInt) (hv : v = cGet (i 3200) x1 0 (a 51, a 52, a 53, a 54, i 3206, i 3207, i 3208)) : v = S.1.getD x1.toNatClampNeg 0 := by
  have t := Int32.toNat_toInt x1
  rw [hv, cGet_pu h0 (by rw [hT.1.1]; exact h1)]
  exact kThm_pu hT (by omega)
theorem gAt_len {K : gK} {L : List Int32} {S : gS} {k n : Int32} (h : k.toInt = n.toInt) : gAt K L S n.toInt.toNat = gAt K L S k.toInt.toNat := by rw [h]
theorem gOp_len {K : gK} {L A B C : List Int32} {S : gS} {k n : Int32} (g : gOp K L S k.toInt A B C) (h : k.toInt = n.toInt) : gOp K L S n.toInt A B C := by rw [← h]; exact g
theorem th_rng {j : Int32} (hR : kRow i a) (h : kThm i1 a1 r1 S) (e : a1 74 = a 74) (e64 : i1 64 = i 64) (h0 : 0 ≤ j.toInt) (hj : j.toInt < (i 3138).toInt) : 0 ≤ ((a1 74).getD j.toNatClampNeg 0).toInt ∧ ((a1 74).getD j.toNatClampNeg 0).toInt < (i1 3200).toInt := by
  rw [e, h.1.1, e64]
  exact kRow_at hR h0 hj
end HB
theorem th_pu2 {i i1 : Nat → Int32} {a1 : Nat → List Int32} {r1 : Nat → Nat} {S : gS} {x v : Int32} (hT : kThm i1 a1 r1 S) (e : i1 64 = i 64) (h8 : (i 64).toInt ≤ 8) (hp : 0 ≤ x.toInt ∧ x.toInt < (i 64).toInt) (hv : v = cGet (i1 3200) x 0 (a1 51, a1 52, a1 53, a1 54, i1 3206, i1 3207, i1 3208)) : v = S.1.getD x.toNatClampNeg 0 :=
  th_pu hT (by rw [e]; exact h8) hp.1 (by rw [e]; exact hp.2) hv
end
section
theorem kox0 : (0 : Int32).toInt = 0 := by decide
theorem kox1 : (1 : Int32).toInt = 1 := by decide
theorem kox20 : (20 : Int32).toInt = 20 := by decide
theorem ox0 {a0 a1 a2 : Int} (h0 : a0 ≤ a1) (h1 : a0 = a2) (h2 : a1 ≤ a2) : a1 = a2 := by omega
theorem ox2 {a0 : Int} (h0 : (0 : Int) ≤ a0) : (0 : Int) ≤ a0 := oz3 h0
theorem ox3 {a0 a1 : Int} (h0 : a0 < a1) (h1 : a1 = 20) : a0 < 20 := oz1013 h0 h1
theorem ox5 {a0 a1 : Int} (h0 : (0 : Int) ≤ a0) (h1 : a0 < a1) : ((0 : Int) ≤ a0) ∧ (a0 < a1) := oz967 h0 h1
theorem ox6 {a0 a1 : Int} (h0 : (0 : Int) ≤ a0) (h1 : a1 = 1) : (-2147483648 : Int) ≤ a0 + a1 := oz12 h0 h1
theorem ox7 {a0 a1 a2 : Int} (h0 : a0 < a1) (h1 : a1 = 20) (h2 : a2 = 1) : a0 + a2 ≤ 2147483647 := oz1014 h0 h1 h2
theorem ox8 {a0 a1 a2 : Int} (h0 : (0 : Int) ≤ a0) (h1 : a1 = a0 + a2) (h2 : a2 = 1) : (0 : Int) ≤ a1 := oz14 h0 h1 h2
theorem ox9 {a0 a1 a2 a3 a4 : Int} (h0 : a0 < a1) (h1 : a1 = a2) (h2 : a3 = a0 + a4) (h3 : a4 = 1) : a3 ≤ a2 := by omega
theorem ox11 {a0 a1 a2 : Int} (h0 : a0 = a1 + a2) (h1 : a2 = 1) : a0 = a1 + 1 := oz169 h0 h1
theorem ox12 {a0 a1 : Int} (h0 : a0 < a1) (h1 : a1 = 20) : a0 < ((20 : Nat) : Int) := by omega
theorem ox13 {a0 a1 a2 : Int} (h0 : a0 = a1 + a2) (h1 : a2 = 1) : (20 - a0) < (20 - a1) := oz218 h0 h1
theorem ox14 {a0 a1 : Int} (h0 : a0 < a1) (h1 : a1 = 20) : (1 : Int) ≤ (20 - a0) := oz225 h0 h1
theorem ox15 {a0 : Int} (h0 : a0 = 0) : (0 : Int) ≤ a0 := oz46 h0
theorem ox16 {a0 a1 : Int} (h0 : (0 : Int) ≤ a0) (h1 : a1 = 0) : a1 ≤ a0 := ob67 h0 h1
theorem ox18 {a0 a1 a2 a3 : Int} (h0 : a0 ≤ a1) (h1 : a0 = a2) (h2 : a2 = a3) (h3 : a1 ≤ a3) : a1 = a3 := by omega
theorem ox19 {a0 a1 a2 a3 a4 : Int} (h0 : a0 < a1) (h1 : a2 ≤ a0) (h2 : a1 = a3) (h3 : a3 = a4) (h4 : a4 ≤ 20) (h5 : a2 = 20) : False := by omega
theorem ox20 {a0 a1 a2 a3 : Int} (h0 : a0 < a1) (h1 : a1 = a2) (h2 : a2 = a3) : a0 < a3 := by omega
theorem ox21 {a0 a1 a2 a3 a4 a5 : Int} (h0 : a0 < a1) (h1 : a1 = a2) (h2 : a2 = a3) (h3 : a4 = a0 + a5) (h4 : a5 = 1) : a4 ≤ a3 := by omega
theorem ox22 {a0 a1 a2 a3 : Int} (h0 : a0 = a1) (h1 : a2 = a0) (h2 : a1 = a3) : a2 = a3 := by omega
theorem ox23 {a0 a1 : Int} (h0 : a0 = a1) : a0 = a1 := oz719 h0
noncomputable def yw63_49_1 : kW := ([645, 3200, 3206, 3207, 3208, 3209, 3214, 3215, 3216, 3586, 3781, 6405], [13, 51, 52, 53, 54, 55, 57, 58, 62, 63, 65, 66, 67, 68, 69, 70, 71, 72, 73, 103], [], [1])
noncomputable def yw63_49_1_L10 : kW := ([645, 3209, 3214, 3215, 3216, 3586, 3781, 6405], [13, 51, 55, 57, 58, 62, 63, 65, 66, 67, 68, 69, 70, 71, 72, 73, 103], [], [])
set_option maxRecDepth 100000 in
theorem ke63_49_1 {i : Nat → Int32} {a : Nat → List Int32} {q : Nat → List Int64} {r : Nat → Nat} (hI : kI i a q) (hr : kr r) (x2 : Int32) (hp0 : ((0 : Int) ≤ x2.toInt) ∧ (x2.toInt < (i 64).toInt)) (hN : kNoW i a r) (hR : kRow i a) : km 9 63 [.ref 49, .ref 1, .int x2] (ks i a q r) (kVI yw63_49_1 i a q r (fun v i1 a1 q1 r1 => (True) ∧ (v = (gAt (gKn i a) (a 74) (gB i a) (i 3138).toInt.toNat).1.getD x2.toNatClampNeg 0 ∧ kThm i1 a1 r1 (gAt (gKn i a) (a 74) (gB i a) (i 3138).toInt.toNat)))) := by
  have hG := kG_self yw63_49_1 hI hr
  refine km_ofI (q := (mi_h63, mi_c63)) rfl (by decide) (Nat.le_of_ble_eq_true rfl) ?_
  intro P hP
  refine fo_goL mi_k63 fz63_0_3_5 [(0, .ref 49), (1, .ref 1), (2, .int x2)] [.ref 1, .ref 50] rfl ?_
  refine ko_callN mi_k63.1 (pc := 5) (ls := [(0, .ref 49), (1, .ref 1), (2, .int x2)]) (st := [.ref 1, .ref 50]) (h := ks i a q r) (i := (.invokevirtual 56, 3, 34, 0, 9, 0, 212)) (mi_k63.2 _ _ (by rfl)) (ft_invS mi_pq34 (by rfl)) (cy := mi_c34) mi_pq34 rfl (kg34_50_1 hG.I hG.R hN) (by decide) ?_
  intro ig1 ag1 qg1 rg1 kg1 hg1
  have hGg1 := kG_call hG kg1 (by decide +kernel)
  obtain ⟨hg1, og1⟩ := hg1
  have tT2 : kThm ig1 ag1 rg1 (gB i a) := og1
  first | refine ft_goL mi_k63 2 10 [(3, .int 0), (0, .ref 49), (1, .ref 1), (2, .int x2)] [] (by rfl) ?_
  have lp3 : ∀ (nz : Nat) (i3 : Nat → Int32) (a3 : Nat → List Int32) (q3 : Nat → List Int64) (r3 : Nat → Nat) (l3_3 : Int32), kG yw63_49_1_L10 ig1 ag1 qg1 rg1 i3 a3 q3 r3 → (0 : Int) ≤ l3_3.toInt → l3_3.toInt ≤ (i 3138).toInt → (i3 3138).toInt = (i 3138).toInt → kThm i3 a3 r3 (gAt (gKn i a) (a 74) (gB i a) l3_3.toInt.toNat) → ((20 - l3_3.toInt)).toNat < nz → ko 9 (mi_h63, mi_c63) P (10, [(3, .int l3_3), (0, .ref 49), (1, .ref 1), (2, .int x2)], [], (0, 0), ks i3 a3 q3 r3) := by
    intro nz
    induction nz with
    | zero =>
      intro _ _ _ _ _ _ _ _ _ _ hm
      exact absurd hm (Nat.not_lt_zero _)
    | succ nz ih3 =>
      intro i3 a3 q3 r3 l3_3 hL3 p3_0 p3_1 p3_2 O3_0 hm3
      have fi_3138 : ((0 : Int) ≤ (i 3138).toInt) ∧ ((i 3138).toInt ≤ 20) := hG.I.1 3138
      have efig1_3138 : (ig1 3138).toInt = (i 3138).toInt := kg1.ti 3138 rfl
      have efi3_3138 : (i3 3138).toInt = (ig1 3138).toInt := hL3.ti 3138 rfl
      refine fo_goL mi_k63 fz63_10_3_15 [(3, .int l3_3), (0, .ref 49), (1, .ref 1), (2, .int x2)] [.int (i3 3138), .int l3_3] rfl ?_
      refine ft_ifS mi_k63 (decide ((i3 3138) ≤ l3_3)) 44 18 [] (by rfl) (fun c => ?_) (fun c => ?_)
      ·
        have c4 : (i3 3138).toInt ≤ l3_3.toInt := kd_le c; clear c
        have hG5 := kG_call hGg1 hL3 (by decide +kernel)
        refine fo_goS mi_k63 fz63_44_4_50 [.int 0, .int x2, .ref 50] rfl ?_
        refine ko_callPI mi_k63.1 (pc := 50) (ls := [(3, .int l3_3), (0, .ref 49), (1, .ref 1), (2, .int x2)]) (st := [.int 0, .int x2, .ref 50]) (h := ks i3 a3 q3 r3) (i := (.invokevirtual 85, 3, 27, 0, 9, 0, 240)) (mi_k63.2 _ _ (by rfl)) (ft_invS mi_pq27 (by rfl)) (cy := mi_c27) mi_pq27 rfl (ke27_50 hG5.I hG5.R x2 0) (by decide) ?_
        intro vg6 hg6
        obtain ⟨hg6, og6⟩ := hg6
        have q7 : vg6 = cGet (i3 3200) x2 (0 : Int32) (a3 51, a3 52, a3 53, a3 54, i3 3206, i3 3207, i3 3208) := og6
        exact ft_ret mi_k63 (by rfl) (hP vg6 _ _ _ _ hG5 ⟨trivial, ⟨th_pu2 (kThm_c O3_0 (gAt_len (ox18 c4 efi3_3138 efig1_3138 p3_1))) (hG5.fi 64 rfl) (kI_64 hI).2 hp0 q7, (kThm_c O3_0 (gAt_len (ox18 c4 efi3_3138 efig1_3138 p3_1)))⟩⟩)
      ·
        have c8 : l3_3.toInt < (i3 3138).toInt := kd_leF c; clear c
        refine ft_goS mi_k63 2 21 [.int 20, .int l3_3] (by rfl) ?_
        refine ft_ifS mi_k63 (decide (20 ≤ l3_3)) 44 24 [] (by rfl) (fun c => ?_) (fun c => ?_)
        ·
          have c9 : (20 : Int32).toInt ≤ l3_3.toInt := kd_le c; clear c
          exact (ox19 c8 c9 efi3_3138 efig1_3138 fi_3138.2 kox20).elim
        ·
          have c10 : l3_3.toInt < (20 : Int32).toInt := kd_leF c; clear c
          refine fo_goS mi_k63 fz63_24_5_33 [.int l3_3, .ref 74, .ref 50] rfl ?_
          refine ko_iald3 mi_k63.1 (n := 20) (c := 20) (ax := (0, 0, 0, 0, 0)) (mi_k63.2 _ _ (by rfl)) (by rfl) (ksG74 _ _ _ _) (hL3.I.2.1 74) rfl (ox2 p3_0) (ox3 c10 kox20) ?_
          have hG11 := kG_call hGg1 hL3 (by decide +kernel)
          have hx12 : ((0 : Int) ≤ ((a3 74).getD l3_3.toNatClampNeg 0).toInt) ∧ (((a3 74).getD l3_3.toNatClampNeg 0).toInt < (i3 3200).toInt) := th_rng hR O3_0 ((hL3.fa 74 rfl).trans (kg1.fa 74 rfl)) (hG11.fi 64 rfl) (ox2 p3_0) (ox20 c8 efi3_3138 efig1_3138)
          refine ko_callI mi_k63.1 (pc := 34) (ls := [(3, .int l3_3), (0, .ref 49), (1, .ref 1), (2, .int x2)]) (st := [.int ((a3 74).getD l3_3.toNatClampNeg 0), .ref 50]) (h := ks i3 a3 q3 r3) (i := (.invokevirtual 63, 3, 29, 0, 9, 0, 220)) (mi_k63.2 _ _ (by rfl)) (ft_invS mi_pq29 (by rfl)) (cy := mi_c29) mi_pq29 rfl (kg29_50 hL3.I hL3.R ((a3 74).getD l3_3.toNatClampNeg 0) (ox5 hx12.1 hx12.2) (kNoW_fr hG11 (by decide +kernel) hr hN) O3_0) (by decide) ?_
          intro vg13 ig13 ag13 qg13 rg13 kg13 hg13
          have hGg13 := kG_call hL3 kg13 (by decide +kernel)
          obtain ⟨hg13, og13⟩ := hg13
          have hG15 := kG_call hGg1 hL3 (by decide +kernel)
          have kn14 := (gKn_fr hG15 (by decide +kernel) : gKn i3 a3 = gKn i a)
          have oT16 := og13
          rw [kn14] at oT16
          have tT17 : kThm ig13 ag13 rg13 (gIn (gKn i a) ((a3 74).getD l3_3.toNatClampNeg 0) (gAt (gKn i a) (a 74) (gB i a) l3_3.toInt.toNat)) := oT16.1
          have s18 : (l3_3 + 1).toInt = l3_3.toInt + (1 : Int32).toInt := kd_add (ox6 p3_0 kox1) (ox7 c10 kox20 kox1)
          first | refine fo_goL mi_k63 fz63_37_3_10 [(3, .int (l3_3 + 1)), (0, .ref 49), (1, .ref 1), (2, .int x2)] [] (by rfl) ?_ | refine ft_goL mi_k63 3 10 [(3, .int (l3_3 + 1)), (0, .ref 49), (1, .ref 1), (2, .int x2)] [] (by rfl) ?_
          have efig13_3138 : (ig13 3138).toInt = (i3 3138).toInt := kg13.ti 3138 rfl
          exact ih3 _ _ _ _ _ hGg13 (ox8 p3_0 s18 kox1) (ox21 c8 efi3_3138 efig1_3138 s18 kox1) (ox22 efi3_3138 efig13_3138 efig1_3138) (kThm_c tT17 (gAt_next (i1 := i) rfl (congrArg (fun z : List Int32 => z.getD l3_3.toNatClampNeg 0) ((hL3.fa 74 rfl).trans (kg1.fa 74 rfl))) (ox2 p3_0) (ox11 s18 kox1) rfl).symm) (kj_meas (ox13 s18 kox1) (ox14 c10 kox20) hm3)
  have fi_3138 : ((0 : Int) ≤ (i 3138).toInt) ∧ ((i 3138).toInt ≤ 20) := hG.I.1 3138
  have efig1_3138 : (ig1 3138).toInt = (i 3138).toInt := kg1.ti 3138 rfl
  exact lp3 _ _ _ _ _ _ (kG_self _ hGg1.I hGg1.R) (ox15 kox0) (ox16 fi_3138.1 kox0) (ox23 efig1_3138) (kThm_c tT2 (gAt_k0 kox0)) (Nat.lt_succ_self _)
end
section
/-! A ROW READ: how many come, by a SHELF's bytes; what SHELVES refuse -/
noncomputable def kRp (b : Int32) (V : Nat → Int32) (n : Int) (L : List Int32) : Prop := ∀ j : Nat, (j : Int) < n → L.getD j 0 = V j ∧ 0 ≤ (V j).toInt ∧ (V j).toInt < b.toInt
noncomputable def kRd (b : Int32) (len : Int) (V : Nat → Int32) (n : Int) (L : List Int32) : Prop := (0 ≤ n ∧ n ≤ 20 ∧ n ≤ len) ∧ kRp b V n L ∧ (n = 20 ∨ n = len ∨ ¬ (0 ≤ (V n.toNat).toInt ∧ (V n.toNat).toInt < b.toInt))
theorem kRp_0 {b : Int32} {V : Nat → Int32} {n : Int} {L : List Int32} (h : n ≤ 0) : kRp b V n L := fun j hj => by omega
theorem kRp_step {b x k k1 y : Int32} {Q : List Int64} {n m : Nat} {L L1 : List Int32} (h : kRp b (vQ Q n) k.toInt L) (lL : L.length = m) (h0 : 0 ≤ k.toInt) (hm : k.toInt < (m : Int)) (h1 : k1.toInt = k.toInt + 1) (e : L1 = L.set k.toNatClampNeg x) (hy : y.toInt = (n : Int) + k.toInt) (hx : x = (Q.getD y.toNatClampNeg 0).toInt32) (b0 : 0 ≤ x.toInt) (b1 : x.toInt < b.toInt) : kRp b (vQ Q n) k1.toInt L1 := by
  have tk := Int32.toNat_toInt k
  have ex : x = vQ Q n k.toInt.toNat := hx.trans (bt_idx (by omega))
  subst e
  intro j hj
  rw [kset_gI (by omega)]
  by_cases c : j = k.toNatClampNeg
  · rw [if_pos c, show j = k.toInt.toNat by omega, ← ex]
    exact ⟨rfl, b0, b1⟩
  · rw [if_neg c]
    exact h j (by omega)
theorem kRd_mk {b k n : Int32} {len : Int} {V : Nat → Int32} {L : List Int32} (h : kRp b V k.toInt L) (e : n.toInt = k.toInt) (h0 : 0 ≤ k.toInt) (h20 : k.toInt ≤ 20) (hl : k.toInt ≤ len) (s : k.toInt = 20 ∨ k.toInt = len ∨ ¬ (0 ≤ (V k.toInt.toNat).toInt ∧ (V k.toInt.toNat).toInt < b.toInt)) : kRd b len V n.toInt L := by
  unfold kRd
  rw [e]
  exact ⟨⟨h0, h20, hl⟩, h, s⟩
theorem kRd_bad {b x k y : Int32} {Q : List Int64} {n : Nat} (hy : y.toInt = (n : Int) + k.toInt) (h0 : 0 ≤ k.toInt) (hx : x = (Q.getD y.toNatClampNeg 0).toInt32) (hb : ¬ (0 ≤ x.toInt ∧ x.toInt < b.toInt)) : ¬ (0 ≤ (vQ Q n k.toInt.toNat).toInt ∧ (vQ Q n k.toInt.toNat).toInt < b.toInt) := by
  rw [← (hx.trans (bt_idx (by omega)) : x = vQ Q n k.toInt.toNat)]
  exact hb
/-- both read as many -/
theorem kRd_n {b b1 : Int32} {len len1 : Int} {V V1 : Nat → Int32} {n n1 : Int} {L L1 : List Int32} (h : kRd b len V n L) (h1 : kRd b1 len1 V1 n1 L1) (eb : b = b1) (el : len = len1) (eV : ∀ j : Nat, (j : Int) < len → V j = V1 j) : n = n1 ∧ ∀ j : Nat, (j : Int) < n → L.getD j 0 = L1.getD j 0 := by
  subst eb
  subst el
  obtain ⟨⟨a1, a2, a3⟩, a4, a5⟩ := h
  obtain ⟨⟨c1, c2, c3⟩, c4, c5⟩ := h1
  have en : n = n1 := by
    rcases Int.lt_trichotomy n n1 with hl | he | hl
    · exfalso
      rcases a5 with s | s | s
      · omega
      · omega
      · have := (c4 n.toNat (by omega)).2
        rw [← eV n.toNat (by omega)] at this
        exact s this
    · exact he
    · exfalso
      rcases c5 with s | s | s
      · omega
      · omega
      · have := (a4 n1.toNat (by omega)).2
        rw [eV n1.toNat (by omega)] at this
        exact s this
  subst en
  exact ⟨rfl, fun j hj => by rw [(a4 j hj).1, (c4 j hj).1, eV j (by omega)]⟩
theorem kRd_row {b : Int32} {len : Int} {V : Nat → Int32} {i : Nat → Int32} {a : Nat → List Int32} (h : kRd b len V (i 3138).toInt (a 74)) (e : i 64 = b) : kRow i a := by
  subst e
  intro j hj
  obtain ⟨_, h4, _⟩ := h
  rw [(h4 j hj).1]
  exact (h4 j hj).2
/-- the class's SHELF x1: why it gives no ROW of bytes -/
noncomputable def cRb (i : Nat → Int32) (x1 v : Int32) : Prop := (¬ (0 ≤ x1.toInt ∧ x1.toInt ≤ 5) ∧ v = -1) ∨ ∃ t : Nat, t < 6 ∧ x1.toInt = (t : Int) ∧ (((i (6656 + 128 * t)).toInt = 0 ∧ v = -11) ∨ ((i (6656 + 128 * t)).toInt ≠ 0 ∧ ¬ ((i (6656 + 128 * t)).toInt = 2 ∧ (i (6658 + 128 * t)).toInt = 0) ∧ v = -12) ∨ ((i (6656 + 128 * t)).toInt = 2 ∧ (i (6658 + 128 * t)).toInt = 0 ∧ v = 0))
noncomputable def cRow1 (i : Nat → Int32) (q : Nat → List Int64) (x1 : Int32) (n : Int) (L : List Int32) : Prop := ∃ t : Nat, t < 6 ∧ x1.toInt = (t : Int) ∧ ((i (6656 + 128 * t)).toInt = 2 ∧ (i (6658 + 128 * t)).toInt = 0) ∧ kRd (i 64) (i (6659 + 128 * t)).toInt (vQ (q (105 + 2 * t)) 0) n L
noncomputable def cPl (i : Nat → Int32) (q : Nat → List Int64) (x1 v : Int32) (n : Int32) (L : List Int32) : Prop := (v.toInt < 0 ∧ cRb i x1 v) ∨ (v = 0 ∧ cRow1 i q x1 n.toInt L)
theorem cRb_t {i : Nat → Int32} {x1 v : Int32} {t : Nat} (h : cRb i x1 v) (hv : v.toInt = 0) (hx : x1.toInt = (t : Int)) : (i (6656 + 128 * t)).toInt = 2 ∧ (i (6658 + 128 * t)).toInt = 0 := by
  rcases h with ⟨_, e⟩ | ⟨s, _, es, h⟩
  · rw [e] at hv; exact absurd hv (by decide)
  · have e : s = t := by omega
    subst e
    rcases h with ⟨_, e⟩ | ⟨_, _, e⟩ | ⟨e1, e2, _⟩
    · rw [e] at hv; exact absurd hv (by decide)
    · rw [e] at hv; exact absurd hv (by decide)
    · exact ⟨e1, e2⟩
noncomputable def cShf (i : Nat → Int32) (q : Nat → List Int64) (x1 v : Int32) (f : Int → List Int32 → Prop) : Prop := (v.toInt < 0 ∧ cRb i x1 v) ∨ ∃ (n : Int) (L : List Int32), cRow1 i q x1 n L ∧ f n L
theorem cShf_bar {i : Nat → Int32} {q : Nat → List Int64} {x1 v n : Int32} {L : List Int32} {f : Int → List Int32 → Prop} (h : cPl i q x1 v n L) (hv : v.toInt < 0) : cShf i q x1 v f := by
  rcases h with h | h
  · exact Or.inl h
  · rw [h.1] at hv; exact absurd hv (by decide)
theorem cPl_row {i : Nat → Int32} {q : Nat → List Int64} {x1 v n : Int32} {L : List Int32} (h : cPl i q x1 v n L) (hv : ¬ (v.toInt < 0)) : cRow1 i q x1 n.toInt L := by
  rcases h with h | h
  · exact absurd h.1 hv
  · exact h.2
theorem cShf_go {i : Nat → Int32} {q : Nat → List Int64} {x1 v n : Int32} {L : List Int32} {f : Int → List Int32 → Prop} (h : cRow1 i q x1 n.toInt L) (hf : f n.toInt L) : cShf i q x1 v f := Or.inr ⟨n.toInt, L, h, hf⟩
theorem cRow1_row {i i1 : Nat → Int32} {a1 : Nat → List Int32} {q : Nat → List Int64} {x1 : Int32} (h : cRow1 i q x1 (i1 3138).toInt (a1 74)) (e : i1 64 = i 64) : kRow i1 a1 := by
  obtain ⟨t, _, _, _, g⟩ := h
  exact kRd_row g e
noncomputable def cTop (ok : Prop) (i : Nat → Int32) (q : Nat → List Int64) (x1 v : Int32) (f : Int → List Int32 → Prop) : Prop := (¬ ok ∧ v = -1) ∨ (ok ∧ cShf i q x1 v f)
/-- the reference's -/
noncomputable def rRb (a : Nat → List Int32) (x1 v : Int32) : Prop := ((a 136).getD x1.toNatClampNeg 0).toInt = -1 ∧ v = -11 ∨ ((a 136).getD x1.toNatClampNeg 0).toInt ≠ -1 ∧ ((a 136).getD x1.toNatClampNeg 0).toInt ≠ 0 ∧ v = -12
noncomputable def rRow1 (i : Nat → Int32) (a : Nat → List Int32) (q : Nat → List Int64) (x1 : Int32) (n : Int) (L : List Int32) : Prop := ((a 136).getD x1.toNatClampNeg 0).toInt = 0 ∧ kRd (i 7424) ((a 137).getD x1.toNatClampNeg 0).toInt (vQ (q 138) (60 * x1.toInt).toNat) n L
noncomputable def rTop (ok : Prop) (i : Nat → Int32) (a : Nat → List Int32) (q : Nat → List Int64) (x1 v : Int32) (f : Int → List Int32 → Prop) : Prop := (¬ (ok ∧ 0 ≤ x1.toInt ∧ x1.toInt ≤ 5) ∧ v = -1) ∨ ((ok ∧ 0 ≤ x1.toInt ∧ x1.toInt ≤ 5) ∧ (rRb a x1 v ∨ ∃ (n : Int) (L : List Int32), rRow1 i a q x1 n L ∧ f n L))
theorem top_same {okc okr : Prop} {i : Nat → Int32} {a : Nat → List Int32} {q : Nat → List Int64} {x1 v w : Int32} {fc fr : Int → List Int32 → Prop} (K : kShel i a q) (e : i 64 = i 7424) (hok : okc ↔ okr) (hho : ∀ t : Nat, t < 6 → 0 ≤ (i (6656 + 128 * t)).toInt ∧ (i (6656 + 128 * t)).toInt ≤ 2) (hso : ∀ t : Nat, t < 6 → 0 ≤ (i (6658 + 128 * t)).toInt) (hln : ∀ t : Nat, t < 6 → (i (6659 + 128 * t)).toInt ≤ 60) (H : ∀ (n : Int) (L L1 : List Int32), okc → 0 ≤ n → n ≤ 20 → (∀ j : Nat, (j : Int) < n → L.getD j 0 = L1.getD j 0) → fc n L → fr n L1 → v = w) (hc : cTop okc i q x1 v fc) (hr : rTop okr i a q x1 w fr) : v = w := by
  rcases hc with ⟨n1, e1⟩ | ⟨o1, c1⟩
  · rcases hr with ⟨_, e2⟩ | ⟨⟨o2, _⟩, _⟩
    · rw [e1, e2]
    · exact absurd (hok.mpr o2) n1
  · by_cases hx : 0 ≤ x1.toInt ∧ x1.toInt ≤ 5
    · rcases hr with ⟨n2, _⟩ | ⟨_, c2⟩
      · exact absurd ⟨hok.mp o1, hx.1, hx.2⟩ n2
      · obtain ⟨t, ht, et⟩ : ∃ t : Nat, t < 6 ∧ x1.toInt = (t : Int) := ⟨x1.toInt.toNat, by omega, by omega⟩
        have e1 : x1.toNatClampNeg = t := by
          have := Int32.toNat_toInt x1
          omega
        have e60 : (60 * x1.toInt).toNat = 60 * t := by omega
        obtain ⟨s0, s1, s2⟩ := K t ht
        have ho := hho t ht
        have so := hso t ht
        have ln := hln t ht
        unfold rRb rRow1 at c2
        rw [e1, e60] at c2
        rcases c1 with ⟨hneg, c1⟩ | ⟨n, L, ⟨t1, _, et1, ⟨h2, h0⟩, rd⟩, fcn⟩
        · rcases c1 with ⟨z, _⟩ | ⟨t1, _, et1, c1⟩
          · exact absurd hx z
          · have ett : t1 = t := by omega
            subst ett
            rcases c1 with ⟨z1, z2⟩ | ⟨z1, z2, z3⟩ | ⟨z1, z2, z3⟩
            · have hm := s0 z1
              rcases c2 with (⟨_, y⟩ | ⟨y1, _⟩) | ⟨n, L, ⟨y1, _⟩, _⟩
              · rw [z2, y]
              · exact absurd hm y1
              · rw [hm] at y1; exact absurd y1 (by decide)
            · have hne : ((a 136).getD t1 0).toInt ≠ -1 ∧ ((a 136).getD t1 0).toInt ≠ 0 := by
                have hq : (i (6656 + 128 * t1)).toInt = 1 ∨ (i (6656 + 128 * t1)).toInt = 2 := by omega
                rcases hq with hq | hq
                · have := s1 hq
                  clear s0 s1 s2
                  omega
                · have := (s2 hq).1
                  clear s0 s1 s2
                  omega
              rcases c2 with (⟨y1, _⟩ | ⟨_, _, y⟩) | ⟨n, L, ⟨y1, _⟩, _⟩
              · exact absurd y1 hne.1
              · rw [z3, y]
              · exact absurd y1 hne.2
            · exfalso
              rw [z3] at hneg
              exact absurd hneg (by decide)
        · have ett : t1 = t := by omega
          subst ett
          obtain ⟨w1, w2, w3⟩ := s2 h2
          rcases c2 with (⟨y1, _⟩ | ⟨_, y1, _⟩) | ⟨n1, L1, ⟨_, rd1⟩, frn⟩
          · rw [w1, h0] at y1; exact absurd y1 (by decide)
          · rw [w1, h0] at y1; exact absurd rfl y1
          · rw [w2] at rd1
            obtain ⟨en, eL⟩ := kRd_n rd rd1 e rfl (fun j hj => by unfold vQ; rw [Nat.zero_add, w3 j hj])
            subst en
            exact H n L L1 o1 rd.1.1 rd.1.2.1 eL fcn frn
    · rcases hr with ⟨_, e2⟩ | ⟨⟨_, h1, h2⟩, _⟩
      · rcases c1 with ⟨_, c1⟩ | ⟨n, L, ⟨t1, ht1, et1, _⟩, _⟩
        · rcases c1 with ⟨_, z⟩ | ⟨t1, ht1, et1, _⟩
          · rw [z, e2]
          · exact absurd ⟨by omega, by omega⟩ hx
        · exact absurd ⟨by omega, by omega⟩ hx
      · exact absurd ⟨h1, h2⟩ hx
end
section
/-! WHAT IS ASKED OF A ROW IN THOUGHT -/
noncomputable def fMk (K : gK) (S : gS) (x2 x3 v : Int32) (n : Int) (L : List Int32) : Prop := (x3.toInt = 0 → v.toInt = n) ∧ (x3.toInt = 1 → v = (gAt K L S n.toNat).2.2.2.2.1) ∧ (x3.toInt = 2 → v = (gAt K L S n.toNat).1.getD 18 0) ∧ (x3.toInt = 3 → v = (gAt K L S n.toNat).1.getD x2.toNatClampNeg 0)
noncomputable def fCo (K : gK) (S : gS) (x2 x3 v : Int32) (n : Int) (L : List Int32) : Prop := (n ≤ x2.toInt → v = -2) ∧ (x2.toInt < n → (x3.toInt = 0 → v = (gAt K L S (x2.toInt.toNat + 1)).2.1) ∧ (x3.toInt = 1 → v = (gAt K L S (x2.toInt.toNat + 1)).2.2.1) ∧ (x3.toInt = 2 → v = (gAt K L S (x2.toInt.toNat + 1)).2.2.2.1))
noncomputable def fFl (K : gK) (S : gS) (x2 v : Int32) (n : Int) (L : List Int32) : Prop := v = (gAt K L S n.toNat).2.2.2.2.2.getD (8 * (x2 / 10) + (x2 - x2 / 10 * 10)).toNatClampNeg 0
/-- n days of the same ROW -/
noncomputable def gDay (K : gK) (L : List Int32) (m : Nat) (S : gS) : Nat → gS
  | 0 => S
  | k + 1 => gAt K L (if k = 0 then gDay K L m S k else gEve (gDay K L m S k)) m
noncomputable def fLa (K : gK) (S : gS) (x2 x3 v : Int32) (n : Int) (L : List Int32) : Prop := (x3.toInt = -1 → v = (gDay K L n.toNat S x2.toInt.toNat).2.2.2.2.1) ∧ (x3.toInt ≠ -1 → v = (gDay K L n.toNat S x2.toInt.toNat).1.getD x3.toNatClampNeg 0)
section TV
variable {K : gK} {S S1 : gS} {L L1 A B C : List Int32} {x2 x3 v w : Int32} {n : Int}
theorem gOp_at {m : Int32} (h : gOp K L S m.toInt A B C) (h0 : 0 ≤ x2.toInt) (hm : x2.toInt < m.toInt) : A.getD x2.toNatClampNeg 0 = (gAt K L S (x2.toInt.toNat + 1)).2.1 ∧ B.getD x2.toNatClampNeg 0 = (gAt K L S (x2.toInt.toNat + 1)).2.2.1 ∧ C.getD x2.toNatClampNeg 0 = (gAt K L S (x2.toInt.toNat + 1)).2.2.2.1 := h x2.toInt.toNat (by omega)
theorem gDay_0 {k : Int32} {m : Nat} (h : k.toInt = 0) : gDay K L m S k.toInt.toNat = S := by
  rw [h]
  rfl
/-- a day more: the first without an evening ahead -/
theorem gDay_one {T : gS} {k k1 : Int32} {m : Nat} (h : T = gAt K L (gDay K L m S k.toInt.toNat) m) (h0 : k.toInt = 0) (h1 : k1.toInt = k.toInt + 1) : T = gDay K L m S k1.toInt.toNat := by
  rw [h, show k1.toInt.toNat = k.toInt.toNat + 1 by omega]
  conv => rhs; unfold gDay
  rw [if_pos (by omega)]
theorem gDay_more {T : gS} {k k1 : Int32} {m : Nat} (h : T = gAt K L (gEve (gDay K L m S k.toInt.toNat)) m) (h0 : 1 ≤ k.toInt) (h1 : k1.toInt = k.toInt + 1) : T = gDay K L m S k1.toInt.toNat := by
  rw [h, show k1.toInt.toNat = k.toInt.toNat + 1 by omega]
  conv => rhs; unfold gDay
  rw [if_neg (by omega)]
theorem gDay_len {k n : Int32} {m : Nat} (h : k.toInt = n.toInt) : gDay K L m S n.toInt.toNat = gDay K L m S k.toInt.toNat := by rw [h]
end TV
end
