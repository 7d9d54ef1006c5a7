section
/-! LINES: what was read, as parts; how class and reference hold it -/
abbrev kLn : Type := Option (List Int32) × List Int32
noncomputable def cLy (st wi : List Int32) : Nat → List kLn → Nat → Prop
  | p, [], e => p = e
  | p, (none, d) :: r, e => cAt st wi p d ∧ (st.getD (p + d.length) 0).toInt = 2 ∧ cLy st wi (p + d.length + 1) r e
  | p, (some a, d) :: r, e => cAt st wi p a ∧ (st.getD (p + a.length) 0).toInt = 3 ∧ (wi.getD (p + a.length) 0).toInt = ((p + a.length + 1 + d.length + 1 : Nat) : Int) ∧ cAt st wi (p + a.length + 1) d ∧ (st.getD (p + a.length + 1 + d.length) 0).toInt = 2 ∧ cLy st wi (p + a.length + 1 + d.length + 1) r e
noncomputable def rLy (A Y E L : List Int32) : Nat → Nat → List kLn → Nat → Nat → Prop
  | j, c, [], k, e => j = k ∧ c = e
  | j, c, (none, d) :: r, k, e => ((A.getD j 0).toInt = (c : Int) ∧ (Y.getD j 0).toInt = (c : Int) ∧ (E.getD j 0).toInt = ((c + d.length : Nat) : Int)) ∧ rAt L c d ∧ rLy A Y E L (j + 1) (c + d.length) r k e
  | j, c, (some a, d) :: r, k, e => ((A.getD j 0).toInt = (c : Int) ∧ (Y.getD j 0).toInt = ((c + a.length : Nat) : Int) ∧ (E.getD j 0).toInt = ((c + a.length + d.length : Nat) : Int)) ∧ rAt L c a ∧ rAt L (c + a.length) d ∧ rLy A Y E L (j + 1) (c + a.length + d.length) r k e
noncomputable def okLn (l : kLn) : Prop := dHt l.2 0 = some 1 ∧ ∀ a, l.1 = some a → dHt a 0 = some 1
theorem cLy_congr {st wi st1 wi1 : List Int32} : ∀ (l : List kLn) (p e : Nat), (∀ j : Nat, j < e → st1.getD j 0 = st.getD j 0 ∧ wi1.getD j 0 = wi.getD j 0) → cLy st wi p l e → cLy st1 wi1 p l e ∧ p ≤ e
  | [], p, e, _, h => ⟨h, Nat.le_of_eq h⟩
  | (none, d) :: r, p, e, g, h => by
    obtain ⟨h1, h2, h3⟩ := h
    obtain ⟨i1, i2⟩ := cLy_congr r _ _ g h3
    refine ⟨⟨fun j hj => ?_, ?_, i1⟩, by omega⟩
    · rw [(g (p + j) (by omega)).1, (g (p + j) (by omega)).2]; exact h1 j hj
    · rw [(g (p + d.length) (by omega)).1]; exact h2
  | (some a, d) :: r, p, e, g, h => by
    obtain ⟨h1, h2, h3, h4, h5, h6⟩ := h
    obtain ⟨i1, i2⟩ := cLy_congr r _ _ g h6
    refine ⟨⟨fun j hj => ?_, ?_, ?_, fun j hj => ?_, ?_, i1⟩, by omega⟩
    · rw [(g (p + j) (by omega)).1, (g (p + j) (by omega)).2]; exact h1 j hj
    · rw [(g (p + a.length) (by omega)).1]; exact h2
    · rw [(g (p + a.length) (by omega)).2]; exact h3
    · rw [(g (p + a.length + 1 + j) (by omega)).1, (g (p + a.length + 1 + j) (by omega)).2]; exact h4 j hj
    · rw [(g (p + a.length + 1 + d.length) (by omega)).1]; exact h5
theorem cLy_snoc {st wi : List Int32} {x : kLn} {e e2 : Nat} : ∀ (l : List kLn) (p : Nat), cLy st wi p l e → cLy st wi e [x] e2 → cLy st wi p (l ++ [x]) e2
  | [], p, h, g => by
    have h : p = e := h
    subst h
    exact g
  | (none, d) :: r, p, h, g => ⟨h.1, h.2.1, cLy_snoc r _ h.2.2 g⟩
  | (some a, d) :: r, p, h, g => ⟨h.1, h.2.1, h.2.2.1, h.2.2.2.1, h.2.2.2.2.1, cLy_snoc r _ h.2.2.2.2.2 g⟩
theorem rLy_congr {A Y E L A1 Y1 E1 L1 : List Int32} : ∀ (l : List kLn) (j c k e : Nat), (∀ m : Nat, m < k → A1.getD m 0 = A.getD m 0 ∧ Y1.getD m 0 = Y.getD m 0 ∧ E1.getD m 0 = E.getD m 0) → (∀ m : Nat, m < e → L1.getD m 0 = L.getD m 0) → rLy A Y E L j c l k e → rLy A1 Y1 E1 L1 j c l k e ∧ j ≤ k ∧ c ≤ e
  | [], j, c, k, e, _, _, h => ⟨h, Nat.le_of_eq h.1, Nat.le_of_eq h.2⟩
  | (none, d) :: r, j, c, k, e, g, gl, h => by
    obtain ⟨⟨h1, h2, h3⟩, h4, h5⟩ := h
    obtain ⟨i1, i2, i3⟩ := rLy_congr r _ _ _ _ g gl h5
    obtain ⟨g1, g2, g3⟩ := g j (by omega)
    refine ⟨⟨⟨by rw [g1]; exact h1, by rw [g2]; exact h2, by rw [g3]; exact h3⟩, fun m hm => ?_, i1⟩, by omega, by omega⟩
    rw [gl _ (by omega)]; exact h4 m hm
  | (some a, d) :: r, j, c, k, e, g, gl, h => by
    obtain ⟨⟨h1, h2, h3⟩, h4, h5, h6⟩ := h
    obtain ⟨i1, i2, i3⟩ := rLy_congr r _ _ _ _ g gl h6
    obtain ⟨g1, g2, g3⟩ := g j (by omega)
    refine ⟨⟨⟨by rw [g1]; exact h1, by rw [g2]; exact h2, by rw [g3]; exact h3⟩, fun m hm => ?_, fun m hm => ?_, i1⟩, by omega, by omega⟩
    · rw [gl _ (by omega)]; exact h4 m hm
    · rw [gl _ (by omega)]; exact h5 m hm
theorem rLy_snoc {A Y E L : List Int32} {x : kLn} {k e k2 e2 : Nat} : ∀ (l : List kLn) (j c : Nat), rLy A Y E L j c l k e → rLy A Y E L k e [x] k2 e2 → rLy A Y E L j c (l ++ [x]) k2 e2
  | [], j, c, h, g => by
    obtain ⟨h1, h2⟩ := h
    subst h1
    subst h2
    exact g
  | (none, d) :: r, j, c, h, g => ⟨h.1, h.2.1, rLy_snoc r _ _ h.2.2 g⟩
  | (some a, d) :: r, j, c, h, g => ⟨h.1, h.2.1, h.2.2.1, rLy_snoc r _ _ h.2.2.2 g⟩
/-- lines read alike: what stands there, and that code isn't more than was read, but for one step -/
noncomputable def sL (n : Int32) (S : cS) (Z : rL) (l : List kLn) : Prop := S.1 = Z.1.1 ∧ S.2.1.toInt = 0 ∧ (0 ≤ S.1.toInt ∧ S.1.toInt ≤ n.toInt) ∧ (0 ≤ S.2.2.2.2.toInt ∧ S.2.2.2.2.toInt ≤ S.1.toInt + 1) ∧ (0 ≤ Z.1.2.1.toInt ∧ Z.1.2.1.toInt ≤ S.1.toInt) ∧ (S.2.2.1.length = 121 ∧ S.2.2.2.1.length = 121 ∧ Z.1.2.2.length = 200) ∧ (Z.2.2.1.length = 61 ∧ Z.2.2.2.1.length = 61 ∧ Z.2.2.2.2.length = 61) ∧ (0 ≤ Z.2.1.toInt ∧ 2 * Z.2.1.toInt ≤ S.1.toInt + 1) ∧ cLy S.2.2.1 S.2.2.2.1 0 l S.2.2.2.2.toInt.toNat ∧ rLy Z.2.2.1 Z.2.2.2.1 Z.2.2.2.2 Z.1.2.2 0 0 l Z.2.1.toInt.toNat Z.1.2.1.toInt.toNat ∧ ∀ x ∈ l, okLn x
noncomputable def sLR (n : Int32) (S : cS) (X : Int32 × rL) : Prop := (X.1.toInt = 0 ∧ sB S X.2.1) ∨ (¬ (X.1.toInt = 0) ∧ ∃ l, sL n S X.2 l)
theorem sSet {l : List Int32} {x v : Int32} (hl : l.length = 61) (h0 : 0 ≤ x.toInt) (h1 : x.toInt ≤ 60) : (l.set x.toNatClampNeg v).length = 61 ∧ (l.set x.toNatClampNeg v).getD x.toInt.toNat 0 = v ∧ ∀ m : Nat, m < x.toInt.toNat → (l.set x.toNatClampNeg v).getD m 0 = l.getD m 0 := by
  have t := Int32.toNat_toInt x
  refine ⟨by simpa using hl, ?_, fun m hm => ?_⟩
  · rw [gD_set (by omega), if_pos (by omega)]
  · rw [gD_set (by omega), if_neg (by omega)]
section SLN
variable {t : List Int32} {n : Int32}
set_option maxHeartbeats 8000000 in
theorem sim_lin {S : cS} {Z : rL} {l : List kLn} (hn : n.toInt ≤ 120) (h : sL n S Z l) (hlen : S.2.2.2.2.toInt ≤ S.1.toInt) (hnl : 2 * Z.2.1.toInt ≤ S.1.toInt) : sLR n (cLin t n S) (rLin t n Z) ∧ (¬ ((rLin t n Z).1.toInt = 0) → S.1.toInt < (cLin t n S).1.toInt) := by
  obtain ⟨h1, h2, h3, h4, h5, ⟨h6, h7, h8⟩, ⟨h9, h10, h11⟩, h12, hc, hr, hok⟩ := h
  have k0 : (0 : Int32).toInt = 0 := by decide
  have k1 : (1 : Int32).toInt = 1 := by decide
  have k2 : (2 : Int32).toInt = 2 := by decide
  have k3 : (3 : Int32).toInt = 3 := by decide
  have k63 : (63 : Int32).toInt = 63 := by decide
  have km : (-1 : Int32).toInt = -1 := by decide
  have hS : sI n S Z.1 := ⟨h1, h2, h3, ⟨h4.1, hlen⟩, h5, h6, h7, h8⟩
  have tn := Int32.toNat_toInt Z.2.1
  unfold cLin rLin
  have hsim := sim_E (t := t) hn 6 S Z.1 hS
  generalize hT : cE t n 6 S = T at *
  generalize hY : rE t n 6 Z.1 = Y at *
  rcases hsim with ⟨hz, hb⟩ | ⟨hnz, d, hg⟩
  · rw [if_pos hz, cTk_f (by rw [cHr_1 hb.2]; omega), if_pos k0]
    exact ⟨Or.inl ⟨k0, hb⟩, fun z => absurd k0 z⟩
  · rw [if_neg hnz]
    obtain ⟨b1, b2, b3, b4, b5, b6⟩ := hg
    have hx := sI_hr (t := t) b1
    have lc := b4.2.2.1
    have lr := b5.2.1
    obtain ⟨q1, q2, q3, q4, q5, q6, q7, q8⟩ := b1
    obtain ⟨sa1, sa2, sa3⟩ := sSet (v := Z.1.2.1) h9 h12.1 (by omega)
    have sget : (Z.2.2.1.set Z.2.1.toNatClampNeg Z.1.2.1).getD Z.2.1.toNatClampNeg 0 = Z.1.2.1 := by
      have sb := sa2
      rw [tn] at sb
      exact sb
    have enl : (Z.2.1 + 1).toInt = Z.2.1.toInt + 1 := by rw [kd_add (by omega) (by omega), k1]
    rw [sget]
    unfold rLn1
    by_cases h63 : (cHr t n T.1 T.2.1).toInt = (63 : Int32).toInt
    · -- a line with a question
      have hp := (cHr_at (by rw [h63]; omega)).2
      have ep := kp1 q3.1 hp
      rw [cTk_t h63, rTk_t (by rw [hx]; exact h63)]
      dsimp only
      rw [if_neg (by omega), if_neg (by omega)]
      unfold cLin2
      have tl := Int32.toNat_toInt T.2.2.2.2
      have e1 : (cAdd 3 0 (cAt1 T)).2.2 = (T.2.2.1.set T.2.2.2.2.toNatClampNeg 3, T.2.2.2.1.set T.2.2.2.2.toNatClampNeg 0, T.2.2.2.2 + 1) := if_pos (by show T.2.2.2.2.toInt ≤ 120; omega)
      have el : (T.2.2.2.2 + 1).toInt = T.2.2.2.2.toInt + 1 := by rw [kd_add (by omega) (by omega), k1]
      have hS2 : sI n (cAdd 3 0 (cAt1 T)) (rAt1 Y.2) := by
        refine ⟨?_, q2, ⟨?_, ?_⟩, ⟨?_, ?_⟩, ⟨q5.1, ?_⟩, ?_, ?_, q8⟩
        · show T.1 + 1 = Y.2.1 + 1
          rw [q1]
        · show 0 ≤ (T.1 + 1).toInt; omega
        · show (T.1 + 1).toInt ≤ n.toInt; omega
        · rw [e1]; show 0 ≤ (T.2.2.2.2 + 1).toInt; omega
        · rw [e1]; show (T.2.2.2.2 + 1).toInt ≤ (T.1 + 1).toInt; omega
        · show Y.2.2.1.toInt ≤ (T.1 + 1).toInt; omega
        · rw [e1]; simpa using q6
        · rw [e1]; simpa using q7
      generalize hS2e : cAdd 3 0 (cAt1 T) = S2 at *
      have e1a : S2.2.2.1 = T.2.2.1.set T.2.2.2.2.toNatClampNeg 3 := congrArg (fun z => z.1) e1
      have e1b : S2.2.2.2.1 = T.2.2.2.1.set T.2.2.2.2.toNatClampNeg 0 := congrArg (fun z => z.2.1) e1
      have e1c : S2.2.2.2.2 = T.2.2.2.2 + 1 := congrArg (fun z => z.2.2) e1
      have e1i : S2.2.2.2.2.toInt = T.2.2.2.2.toInt + 1 := by rw [e1c]; exact el
      have e1p : S2.1.toInt = T.1.toInt + 1 := by rw [← ep, ← hS2e]; rfl
      have hsim2 := sim_E (t := t) hn 6 S2 (rAt1 Y.2) hS2
      generalize hU : cE t n 6 S2 = U at *
      generalize hV : rE t n 6 (rAt1 Y.2) = V at *
      rcases hsim2 with ⟨hz, hb⟩ | ⟨hnz2, d2, hg2⟩
      · unfold rLn2
        rw [if_pos hz]
        exact ⟨Or.inl ⟨k0, hb⟩, fun z => absurd k0 z⟩
      · unfold rLn2
        rw [if_neg hnz2]
        obtain ⟨c1, c2, c3, c4, c5, c6⟩ := hg2
        have lc2 := c4.2.2.1
        have lr2 := c5.2.1
        have c4c := c4.2.2.2.1
        have c4d := c4.2.2.2.2
        have c5c := c5.2.2.1
        have c5d := c5.2.2.2
        have hYv : (rAt1 Y.2).2 = Y.2.2 := rfl
        rw [hYv] at lr2 c5c c5d
        obtain ⟨p1, p2, p3, p4, p5, p6, p7, p8⟩ := c1
        have ul := Int32.toNat_toInt U.2.2.2.2
        have f1 : (cAdd 2 0 U).2.2 = (U.2.2.1.set U.2.2.2.2.toNatClampNeg 2, U.2.2.2.1.set U.2.2.2.2.toNatClampNeg 0, U.2.2.2.2 + 1) := if_pos (by show U.2.2.2.2.toInt ≤ 120; omega)
        have fl : (U.2.2.2.2 + 1).toInt = U.2.2.2.2.toInt + 1 := by rw [kd_add (by omega) (by omega), k1]
        have epl : (S2.2.2.2.2 - 1).toInt = T.2.2.2.2.toInt := by rw [e1c, kd_sub (by omega) (by omega), k1]; omega
        have tp := Int32.toNat_toInt (S2.2.2.2.2 - 1)
        have g1 : (cAim (S2.2.2.2.2 - 1) (cAdd 2 0 U)).2.2 = (U.2.2.1.set U.2.2.2.2.toNatClampNeg 2, (U.2.2.2.1.set U.2.2.2.2.toNatClampNeg 0).set (S2.2.2.2.2 - 1).toNatClampNeg (U.2.2.2.2 + 1), U.2.2.2.2 + 1) := by
          show lAim (S2.2.2.2.2 - 1) (cAdd 2 0 U).2.2 = _
          rw [f1]
          exact if_pos ⟨by omega, by show (S2.2.2.2.2 - 1).toInt < (U.2.2.2.2 + 1).toInt; omega⟩
        have gp : (cAim (S2.2.2.2.2 - 1) (cAdd 2 0 U)).1 = U.1 := rfl
        have gf : (cAim (S2.2.2.2.2 - 1) (cAdd 2 0 U)).2.1 = U.2.1 := rfl
        generalize hW : cAim (S2.2.2.2.2 - 1) (cAdd 2 0 U) = W at *
        have g1a : W.2.2.1 = U.2.2.1.set U.2.2.2.2.toNatClampNeg 2 := congrArg (fun z => z.1) g1
        have g1b : W.2.2.2.1 = (U.2.2.2.1.set U.2.2.2.2.toNatClampNeg 0).set (S2.2.2.2.2 - 1).toNatClampNeg (U.2.2.2.2 + 1) := congrArg (fun z => z.2.1) g1
        have g1c : W.2.2.2.2 = U.2.2.2.2 + 1 := congrArg (fun z => z.2.2) g1
        obtain ⟨sy1, sy2, sy3⟩ := sSet (v := Z.1.2.1) h10 h12.1 (by omega)
        obtain ⟨sz1, sz2, sz3⟩ := sSet (v := (rAt1 Y.2).2.1) sy1 h12.1 (by omega)
        obtain ⟨se1, se2, se3⟩ := sSet (v := V.2.2.1) h11 h12.1 (by omega)
        refine ⟨Or.inr ⟨by show ¬ ((1 : Int32).toInt = 0); omega, l ++ [(some d, d2)], ?_⟩, fun _ => by rw [gp]; omega⟩
        have st1 : ∀ j : Nat, (j : Int) < U.2.2.2.2.toInt → W.2.2.1.getD j 0 = U.2.2.1.getD j 0 := fun j hj => by rw [g1a, gD_set (by omega), if_neg (by omega)]
        have wi1 : ∀ j : Nat, (j : Int) < U.2.2.2.2.toInt → j ≠ (S2.2.2.2.2 - 1).toNatClampNeg → W.2.2.2.1.getD j 0 = U.2.2.2.1.getD j 0 := fun j hj hne => by
          rw [g1b, gD_set (by simpa using (by omega : (S2.2.2.2.2 - 1).toNatClampNeg < U.2.2.2.1.length)), if_neg hne, gD_set (by omega), if_neg (by omega)]
        have s2t : ∀ j : Nat, (j : Int) < T.2.2.2.2.toInt → S2.2.2.1.getD j 0 = T.2.2.1.getD j 0 ∧ S2.2.2.2.1.getD j 0 = T.2.2.2.1.getD j 0 := fun j hj => by
          rw [e1a, e1b, gD_set (by omega), gD_set (by omega), if_neg (by omega), if_neg (by omega)]
          exact ⟨rfl, rfl⟩
        have all : ∀ j : Nat, (j : Int) < T.2.2.2.2.toInt → W.2.2.1.getD j 0 = T.2.2.1.getD j 0 ∧ W.2.2.2.1.getD j 0 = T.2.2.2.1.getD j 0 := fun j hj => by
          have a := c4c j (by omega)
          have b := s2t j hj
          exact ⟨(st1 j (by omega)).trans (a.1.trans b.1), (wi1 j (by omega) (by omega)).trans (a.2.trans b.2)⟩
        refine ⟨by show W.1 = _; rw [gp]; exact p1, by rw [gf]; exact p2, by rw [gp]; exact p3, ?_, ?_, ⟨?_, ?_, p8⟩, ⟨sa1, sz1, se1⟩, ⟨by show 0 ≤ (Z.2.1 + 1).toInt; omega, by show 2 * (Z.2.1 + 1).toInt ≤ W.1.toInt + 1; rw [gp]; omega⟩, ?_, ?_, ?_⟩
        · rw [g1c, gp]; omega
        · rw [gp]; exact p5
        · rw [g1a]; simpa using p6
        · rw [g1b]; simpa using p7
        · refine cLy_snoc l 0 (cLy_congr l 0 S.2.2.2.2.toInt.toNat (fun j hj => ?_) hc).1 ?_
          · have a := all j (by omega)
            have b := b4.2.2.2.1 j (by omega)
            exact ⟨a.1.trans b.1, a.2.trans b.2⟩
          · refine ⟨fun j hj => ?_, ?_, ?_, fun j hj => ?_, ?_, ?_⟩
            · have a := all (S.2.2.2.2.toInt.toNat + j) (by omega)
              have b := b4.2.2.2.2 j hj
              exact ⟨by rw [a.1]; exact b.1, by rw [a.2]; exact b.2⟩
            · have e : S.2.2.2.2.toInt.toNat + d.length = T.2.2.2.2.toNatClampNeg := by omega
              rw [e, st1 _ (by omega), (c4c _ (by omega)).1, e1a, gD_set (by omega), if_pos rfl]
              exact k3
            · have e : S.2.2.2.2.toInt.toNat + d.length = (S2.2.2.2.2 - 1).toNatClampNeg := by omega
              rw [g1b, e, gD_set (by simpa using (by omega : (S2.2.2.2.2 - 1).toNatClampNeg < U.2.2.2.1.length)), if_pos rfl]
              omega
            · have a1 := st1 (S.2.2.2.2.toInt.toNat + d.length + 1 + j) (by omega)
              have a2 := wi1 (S.2.2.2.2.toInt.toNat + d.length + 1 + j) (by omega) (by omega)
              have b := c4d j hj
              rw [show S2.2.2.2.2.toInt.toNat + j = S.2.2.2.2.toInt.toNat + d.length + 1 + j by rw [e1c]; omega] at b
              exact ⟨by rw [a1]; exact b.1, by rw [a2]; exact b.2⟩
            · have e : S.2.2.2.2.toInt.toNat + d.length + 1 + d2.length = U.2.2.2.2.toNatClampNeg := by rw [e1c] at lc2; omega
              rw [e, g1a, gD_set (by omega), if_pos rfl]
              exact k2
            · show S.2.2.2.2.toInt.toNat + d.length + 1 + d2.length + 1 = W.2.2.2.2.toInt.toNat
              rw [g1c]
              rw [e1c] at lc2
              omega
        · refine rLy_snoc l 0 0 (rLy_congr l 0 0 Z.2.1.toInt.toNat Z.1.2.1.toInt.toNat (fun m hm => ⟨sa3 m hm, (sz3 m hm).trans (sy3 m hm), se3 m hm⟩) (fun m hm => ?_) hr).1 ?_
          · exact (c5c m (by omega)).trans (b5.2.2.1 m (by omega))
          · refine ⟨⟨?_, ?_, ?_⟩, fun j hj => ?_, fun j hj => ?_, ?_, ?_⟩
            · rw [sa2]; omega
            · rw [sz2]; show Y.2.2.1.toInt = _; omega
            · rw [se2]; omega
            · exact (c5c _ (by omega)).trans (b5.2.2.2 j hj)
            · have b := c5d j hj
              rw [show Y.2.2.1.toInt.toNat + j = Z.1.2.1.toInt.toNat + d.length + j by omega] at b
              exact b
            · show Z.2.1.toInt.toNat + 1 = (Z.2.1 + 1).toInt.toNat
              omega
            · show Z.1.2.1.toInt.toNat + d.length + d2.length = V.2.2.1.toInt.toNat
              omega
        · intro x hx
          rcases List.mem_append.mp hx with hx | hx
          · exact hok x hx
          · have hx := List.mem_singleton.mp hx
            subst hx
            exact ⟨c6, fun a ha => by cases ha; exact b6⟩
    · -- a line without
      rw [cTk_f h63, rTk_f (by rw [hx]; exact h63)]
      dsimp only
      rw [if_pos k0, if_pos k0]
      unfold rLn2
      rw [if_neg (by show ¬ ((1 : Int32).toInt = 0); omega)]
      have tl := Int32.toNat_toInt T.2.2.2.2
      have e1 : (cAdd 2 0 T).2.2 = (T.2.2.1.set T.2.2.2.2.toNatClampNeg 2, T.2.2.2.1.set T.2.2.2.2.toNatClampNeg 0, T.2.2.2.2 + 1) := if_pos (by show T.2.2.2.2.toInt ≤ 120; omega)
      have el : (T.2.2.2.2 + 1).toInt = T.2.2.2.2.toInt + 1 := by rw [kd_add (by omega) (by omega), k1]
      have gp : (cAdd 2 0 T).1 = T.1 := rfl
      have gf : (cAdd 2 0 T).2.1 = T.2.1 := rfl
      generalize hW : cAdd 2 0 T = W at *
      have g1a : W.2.2.1 = T.2.2.1.set T.2.2.2.2.toNatClampNeg 2 := congrArg (fun z => z.1) e1
      have g1b : W.2.2.2.1 = T.2.2.2.1.set T.2.2.2.2.toNatClampNeg 0 := congrArg (fun z => z.2.1) e1
      have g1c : W.2.2.2.2 = T.2.2.2.2 + 1 := congrArg (fun z => z.2.2) e1
      obtain ⟨sy1, sy2, sy3⟩ := sSet (v := Z.1.2.1) h10 h12.1 (by omega)
      obtain ⟨se1, se2, se3⟩ := sSet (v := Y.2.2.1) h11 h12.1 (by omega)
      have all : ∀ j : Nat, (j : Int) < T.2.2.2.2.toInt → W.2.2.1.getD j 0 = T.2.2.1.getD j 0 ∧ W.2.2.2.1.getD j 0 = T.2.2.2.1.getD j 0 := fun j hj => by
        rw [g1a, g1b, gD_set (by omega), gD_set (by omega), if_neg (by omega), if_neg (by omega)]
        exact ⟨rfl, rfl⟩
      refine ⟨Or.inr ⟨by show ¬ ((1 : Int32).toInt = 0); omega, l ++ [(none, d)], ?_⟩, fun _ => by rw [gp]; exact b3⟩
      refine ⟨by rw [gp]; exact q1, by rw [gf]; exact q2, by rw [gp]; exact q3, ?_, by rw [gp]; exact q5, ⟨?_, ?_, q8⟩, ⟨sa1, sy1, se1⟩, ⟨by show 0 ≤ (Z.2.1 + 1).toInt; omega, by show 2 * (Z.2.1 + 1).toInt ≤ W.1.toInt + 1; rw [gp]; omega⟩, ?_, ?_, ?_⟩
      · rw [g1c, gp]; omega
      · rw [g1a]; simpa using q6
      · rw [g1b]; simpa using q7
      · refine cLy_snoc l 0 (cLy_congr l 0 S.2.2.2.2.toInt.toNat (fun j hj => ?_) hc).1 ?_
        · have a := all j (by omega)
          have b := b4.2.2.2.1 j (by omega)
          exact ⟨a.1.trans b.1, a.2.trans b.2⟩
        · refine ⟨fun j hj => ?_, ?_, ?_⟩
          · have a := all (S.2.2.2.2.toInt.toNat + j) (by omega)
            have b := b4.2.2.2.2 j hj
            exact ⟨by rw [a.1]; exact b.1, by rw [a.2]; exact b.2⟩
          · have e : S.2.2.2.2.toInt.toNat + d.length = T.2.2.2.2.toNatClampNeg := by omega
            rw [e, g1a, gD_set (by omega), if_pos rfl]
            exact k2
          · show S.2.2.2.2.toInt.toNat + d.length + 1 = W.2.2.2.2.toInt.toNat
            rw [g1c]
            omega
      · refine rLy_snoc l 0 0 (rLy_congr l 0 0 Z.2.1.toInt.toNat Z.1.2.1.toInt.toNat (fun m hm => ⟨sa3 m hm, sy3 m hm, se3 m hm⟩) (fun m hm => b5.2.2.1 m (by omega)) hr).1 ?_
        refine ⟨⟨?_, ?_, ?_⟩, b5.2.2.2, ?_, ?_⟩
        · rw [sa2]; omega
        · rw [sy2]; omega
        · rw [se2]; omega
        · show Z.2.1.toInt.toNat + 1 = (Z.2.1 + 1).toInt.toNat
          omega
        · show Z.1.2.1.toInt.toNat + d.length = Y.2.2.1.toInt.toNat
          omega
      · intro x hx
        rcases List.mem_append.mp hx with hx | hx
        · exact hok x hx
        · have hx := List.mem_singleton.mp hx
          subst hx
          exact ⟨b6, fun a ha => by cases ha⟩
theorem sim_lpl (hn : n.toInt ≤ 120) (k : Nat) : ∀ (k' : Nat) (S : cS) (X : Int32 × rL), sLR n S X → (¬ (X.1.toInt = 0) → (n.toInt - S.1.toInt).toNat ≤ k ∧ (n.toInt - S.1.toInt).toNat ≤ k') → sLR n (cLpL t n k S) (rLpL t n k' X) := by
  have k0 : (0 : Int32).toInt = 0 := by decide
  have k59 : (59 : Int32).toInt = 59 := by decide
  have km : (-1 : Int32).toInt = -1 := by decide
  have bad : ∀ (k : Nat) (S : cS), S.2.1.toInt ≠ 0 → cLpL t n k S = S := fun k S hb => by
    cases k with
    | zero => rfl
    | succ k =>
      have e1 : cLpL t n (k + 1) S = (if (cTk t n 59 S).1.toInt = 0 then (cTk t n 59 S).2 else cLpL t n k (cLin t n (cTk t n 59 S).2)) := rfl
      rw [e1, cTk_f (by rw [cHr_1 hb]; omega)]
      exact if_pos k0
  have badr : ∀ (k : Nat) (X : Int32 × rL), X.1.toInt = 0 → rLpL t n k X = X := fun k X hz => by
    cases k with
    | zero => rfl
    | succ k => exact if_pos hz
  have out : ∀ (k k' : Nat) (S : cS) (X : Int32 × rL) (l : List kLn), ¬ (X.1.toInt = 0) → sL n S X.2 l → ¬ ((cHr t n S.1 S.2.1).toInt = (59 : Int32).toInt) → cLpL t n k S = S ∧ rLpL t n k' X = X := fun k k' S X l hz hl hne => by
    have hx : rHr t n X.2.1 = cHr t n S.1 S.2.1 := by
      unfold rHr
      rw [← hl.1]
      exact (cHr_0 hl.2.1).symm
    refine ⟨?_, ?_⟩
    · cases k with
      | zero => rfl
      | succ k =>
        have e1 : cLpL t n (k + 1) S = (if (cTk t n 59 S).1.toInt = 0 then (cTk t n 59 S).2 else cLpL t n k (cLin t n (cTk t n 59 S).2)) := rfl
        rw [e1, cTk_f hne]
        exact if_pos k0
    · cases k' with
      | zero => rfl
      | succ k' =>
        have e1 : rLpL t n (k' + 1) X = (if X.1.toInt = 0 then X else if (rTk t n 59 X.2.1).1.toInt = 0 then (X.1, ((rTk t n 59 X.2.1).2, X.2.2)) else rLpL t n k' (rLin t n ((rTk t n 59 X.2.1).2, X.2.2))) := rfl
        rw [e1, if_neg hz, rTk_f (by rw [hx]; exact hne)]
        exact if_pos k0
  induction k with
  | zero =>
    intro k' S X h hk
    rcases h with ⟨hz, hb⟩ | ⟨hz, l, hl⟩
    · rw [badr k' X hz]; exact Or.inl ⟨hz, hb⟩
    · have hne : ¬ ((cHr t n S.1 S.2.1).toInt = (59 : Int32).toInt) := fun e => by
        have := (cHr_at (by rw [e]; omega)).2
        have := (hk hz).1
        omega
      obtain ⟨a, b⟩ := out 0 k' S X l hz hl hne
      rw [a, b]
      exact Or.inr ⟨hz, l, hl⟩
  | succ k ih =>
    intro k' S X h hk
    rcases h with ⟨hz, hb⟩ | ⟨hz, l, hl⟩
    · rw [badr k' X hz, bad _ _ hb.2]; exact Or.inl ⟨hz, hb⟩
    · by_cases e : (cHr t n S.1 S.2.1).toInt = (59 : Int32).toInt
      · have hp := (cHr_at (by rw [e]; omega)).2
        have hx : rHr t n X.2.1 = cHr t n S.1 S.2.1 := by
          unfold rHr
          rw [← hl.1]
          exact (cHr_0 hl.2.1).symm
        cases k' with
        | zero =>
          have := (hk hz).2
          omega
        | succ k' =>
          have e1 : cLpL t n (k + 1) S = (if (cTk t n 59 S).1.toInt = 0 then (cTk t n 59 S).2 else cLpL t n k (cLin t n (cTk t n 59 S).2)) := rfl
          have e2 : rLpL t n (k' + 1) X = (if X.1.toInt = 0 then X else if (rTk t n 59 X.2.1).1.toInt = 0 then (X.1, ((rTk t n 59 X.2.1).2, X.2.2)) else rLpL t n k' (rLin t n ((rTk t n 59 X.2.1).2, X.2.2))) := rfl
          rw [e1, e2, if_neg hz, cTk_t e, rTk_t (by rw [hx]; exact e), if_neg (by decide : ¬ ((1 : Int32).toInt = 0)), if_neg (by decide : ¬ ((1 : Int32).toInt = 0))]
          dsimp only
          obtain ⟨h1, h2, h3, h4, h5, h6, h7, h8, h9, h10, h11⟩ := hl
          have ep := kp1 h3.1 hp
          have hl2 : sL n (cAt1 S) (rAt1 X.2.1, X.2.2) l := ⟨by show S.1 + 1 = X.2.1.1 + 1; rw [h1], h2, ⟨by show 0 ≤ (S.1 + 1).toInt; omega, by show (S.1 + 1).toInt ≤ n.toInt; omega⟩, ⟨h4.1, by show S.2.2.2.2.toInt ≤ (S.1 + 1).toInt + 1; omega⟩, ⟨h5.1, by show X.2.1.2.1.toInt ≤ (S.1 + 1).toInt; omega⟩, h6, h7, ⟨h8.1, by show 2 * X.2.2.1.toInt ≤ (S.1 + 1).toInt + 1; omega⟩, h9, h10, h11⟩
          obtain ⟨r1, r2⟩ := sim_lin (t := t) hn hl2 (by show S.2.2.2.2.toInt ≤ (S.1 + 1).toInt; omega) (by show 2 * X.2.2.1.toInt ≤ (S.1 + 1).toInt; omega)
          refine ih k' _ _ r1 (fun z => ?_)
          have a := r2 z
          have a : (S.1 + 1).toInt < (cLin t n (cAt1 S)).1.toInt := a
          obtain ⟨b1, b2⟩ := hk hz
          omega
      · obtain ⟨a, b⟩ := out (k + 1) k' S X l hz hl e
        rw [a, b]
        exact Or.inr ⟨hz, l, hl⟩
theorem sim_txt {st wi L A Y E : List Int32} (h0 : 0 ≤ n.toInt) (hn : n.toInt ≤ 120) (l1 : st.length = 121) (l2 : wi.length = 121) (l3 : L.length = 200) (l4 : A.length = 61) (l5 : Y.length = 61) (l6 : E.length = 61) : (cTxt t n st wi).1 = (rTxt t n L A Y E).2.1.1 ∧ (cOk n (cTxt t n st wi) ↔ rOk n (rTxt t n L A Y E)) ∧ (cOk n (cTxt t n st wi) → ∃ l, sL n (cTxt t n st wi) (rTxt t n L A Y E).2 l) := by
  have k0 : (0 : Int32).toInt = 0 := by decide
  have hl : sL n (0, 0, st, wi, 0) ((0, 0, L), 0, A, Y, E) [] := by
    refine ⟨rfl, k0, ⟨?_, ?_⟩, ⟨?_, ?_⟩, ⟨?_, ?_⟩, ⟨l1, l2, l3⟩, ⟨l4, l5, l6⟩, ⟨?_, ?_⟩, rfl, ⟨rfl, rfl⟩, fun x hx => absurd hx List.not_mem_nil⟩ <;> simp only [k0] <;> omega
  obtain ⟨r1, r2⟩ := sim_lin (t := t) hn hl (by show (0 : Int32).toInt ≤ (0 : Int32).toInt; omega) (by show 2 * (0 : Int32).toInt ≤ (0 : Int32).toInt; omega)
  have r := sim_lpl (t := t) hn n.toInt.toNat n.toInt.toNat _ _ r1 (fun z => by
    have a := r2 z
    have a : (0 : Int32).toInt < _ := a
    omega)
  have r : sLR n (cTxt t n st wi) (rTxt t n L A Y E) := r
  rcases r with ⟨hz, hb⟩ | ⟨hz, l, hl⟩
  · exact ⟨hb.1, ⟨fun z => absurd z.1 hb.2, fun z => absurd hz z.1⟩, fun z => absurd z.1 hb.2⟩
  · refine ⟨hl.1, ⟨fun z => ⟨hz, ?_⟩, fun z => ⟨hl.2.1, ?_⟩⟩, fun _ => ⟨l, hl⟩⟩
    · have := hl.2.2.1.2
      have := z.2
      rw [← hl.1]
      omega
    · have := z.2
      rw [← hl.1] at this
      omega
end SLN
end
section
/-! BOTH LAWS SAY THE SAME -/
noncomputable def dRun (nm : List Int32) : List Int32 → List Int32 → List Int32
  | [], s => s
  | x :: d, s => dRun nm d (wOp nm x s)
noncomputable def dVal (nm d : List Int32) : Int32 := (dRun nm d []).getD 0 0
noncomputable def sayL (nm : List Int32) : List kLn → Int32
  | [] => 0
  | (none, d) :: _ => dVal nm d
  | (some a, d) :: r => if (dVal nm a).toInt = 0 then sayL nm r else dVal nm d
theorem dRun_snoc (nm : List Int32) : ∀ (d s : List Int32) (x : Int32), dRun nm (d ++ [x]) s = wOp nm x (dRun nm d s)
  | [], s, x => rfl
  | y :: d, s, x => dRun_snoc nm d (wOp nm y s) x
theorem wRun_at {L nm d : List Int32} {f : Nat} (h : rAt L f d) : ∀ n : Nat, n ≤ d.length → wRun L nm f n = dRun nm (d.take n) []
  | 0, _ => by rw [List.take_zero]; rfl
  | n + 1, hn => by
    have e : d.take (n + 1) = d.take n ++ [d.getD n 0] := by
      rw [List.take_succ, List.getElem?_eq_getElem (by omega), List.getD_eq_getElem?_getD, List.getElem?_eq_getElem (by omega)]
      rfl
    rw [e, dRun_snoc, ← wRun_at h n (by omega), ← h n (by omega)]
    rfl
theorem wVal_at {L nm d : List Int32} {f : Nat} {x y : Int32} (h : rAt L f d) (hx : x.toInt = (f : Int)) (hy : y.toInt = ((f + d.length : Nat) : Int)) : wVal L nm x y = dVal nm d := by
  unfold wVal dVal
  rw [show x.toInt.toNat = f by omega, show (y.toInt - x.toInt).toNat = d.length by omega, wRun_at h d.length (Nat.le_refl _), List.take_length]
theorem dHt_ne {d : List Int32} (h : dHt d 0 = some 1) : 1 ≤ d.length := by
  cases d with
  | nil => cases h
  | cons x d => exact Nat.succ_le_succ (Nat.zero_le _)
theorem wLaw_say2 {A Y E L nm : List Int32} : ∀ (l : List kLn) (m j c k e : Nat), rLy A Y E L j c l k e → k = j + m → (∀ x ∈ l, okLn x) → wLaw A Y E L nm m j = sayL nm l
  | [], m, j, c, k, e, h, hk, _ => by
    have h1 := h.1
    have hm : m = 0 := by omega
    subst hm
    rfl
  | (none, d) :: r, m, j, c, k, e, h, hk, ho => by
    obtain ⟨⟨h1, h2, h3⟩, h4, h5⟩ := h
    have := (rLy_congr r _ _ _ _ (fun _ _ => ⟨rfl, rfl, rfl⟩) (fun _ _ => rfl) h5).2.1
    cases m with
    | zero => omega
    | succ m =>
      have e1 : wLaw A Y E L nm (m + 1) j = (if (A.getD j 0).toInt < (Y.getD j 0).toInt ∧ (wVal L nm (A.getD j 0) (Y.getD j 0)).toInt = 0 then wLaw A Y E L nm m (j + 1) else wVal L nm (Y.getD j 0) (E.getD j 0)) := rfl
      rw [e1, if_neg (fun z => by have := z.1; omega)]
      exact wVal_at h4 h2 h3
  | (some a, d) :: r, m, j, c, k, e, h, hk, ho => by
    obtain ⟨⟨h1, h2, h3⟩, h4, h5, h6⟩ := h
    have := (rLy_congr r _ _ _ _ (fun _ _ => ⟨rfl, rfl, rfl⟩) (fun _ _ => rfl) h6).2.1
    have ha := dHt_ne ((ho _ List.mem_cons_self).2 a rfl)
    cases m with
    | zero => omega
    | succ m =>
      have e1 : wLaw A Y E L nm (m + 1) j = (if (A.getD j 0).toInt < (Y.getD j 0).toInt ∧ (wVal L nm (A.getD j 0) (Y.getD j 0)).toInt = 0 then wLaw A Y E L nm m (j + 1) else wVal L nm (Y.getD j 0) (E.getD j 0)) := rfl
      have e2 : wVal L nm (A.getD j 0) (Y.getD j 0) = dVal nm a := wVal_at h4 h1 h2
      have e3 : wVal L nm (Y.getD j 0) (E.getD j 0) = dVal nm d := wVal_at h5 h2 h3
      rw [e1, e2, e3]
      show _ = (if (dVal nm a).toInt = 0 then sayL nm r else dVal nm d)
      by_cases hz : (dVal nm a).toInt = 0
      · rw [if_pos ⟨by omega, hz⟩, if_pos hz]
        exact wLaw_say2 r m (j + 1) _ k e h6 (by omega) (fun x hx => ho x (List.mem_cons_of_mem _ hx))
      · rw [if_neg (fun z => hz z.2), if_neg hz]
/-- the class's stack beside a list -/
noncomputable def lRel (S : List Int32 × Int32) (s : List Int32) : Prop := S.1.length = 121 ∧ S.2.toInt = s.length ∧ ∀ j : Nat, j < s.length → S.1.getD j 0 = s.getD j 0
theorem lRel_push {S : List Int32 × Int32} {s : List Int32} {v : Int32} (h : lRel S s) (hl : s.length ≤ 120) : lRel (lPush S v) (s ++ [v]) := by
  obtain ⟨h1, h2, h3⟩ := h
  have t := Int32.toNat_toInt S.2
  have k1 : (1 : Int32).toInt = 1 := by decide
  have e : lPush S v = (S.1.set S.2.toNatClampNeg v, S.2 + 1) := if_pos (by omega)
  rw [e]
  refine ⟨by simpa using h1, ?_, fun j hj => ?_⟩
  · dsimp only
    rw [kd_add (by omega) (by omega), k1, h2]
    simp
  · dsimp only
    rw [List.length_append] at hj
    have hj : j < s.length + 1 := hj
    rw [gD_set (by omega)]
    by_cases c : j = S.2.toNatClampNeg
    · rw [if_pos c, gD_r (by omega), show j - s.length = 0 by omega]
      rfl
    · rw [if_neg c, gD_l (by omega)]
      exact h3 j (by omega)
theorem gD_take {s : List Int32} {n j : Nat} (h : j < n) : (s.take n).getD j 0 = s.getD j 0 := by
  rw [List.getD_eq_getElem?_getD, List.getElem?_take_of_lt h, ← List.getD_eq_getElem?_getD]
theorem lRel_pop {S : List Int32 × Int32} {s : List Int32} (h : lRel S s) (hl : 1 ≤ s.length) : (lPop S).1 = s.getD (s.length - 1) 0 ∧ lRel (lPop S).2 (s.take (s.length - 1)) := by
  obtain ⟨h1, h2, h3⟩ := h
  have k1 : (1 : Int32).toInt = 1 := by decide
  have b := kd_bd S.2
  have e : lPop S = (S.1.getD (S.2 - 1).toNatClampNeg 0, (S.1, S.2 - 1)) := if_pos (by omega)
  have e1 : (S.2 - 1).toInt = S.2.toInt - 1 := by rw [kd_sub (by omega) (by omega), k1]
  have t := Int32.toNat_toInt (S.2 - 1)
  rw [e]
  refine ⟨?_, h1, ?_, fun j hj => ?_⟩
  · dsimp only
    rw [show (S.2 - 1).toNatClampNeg = s.length - 1 by omega]
    exact h3 _ (by omega)
  · dsimp only
    rw [e1, h2, List.length_take]
    omega
  · rw [List.length_take] at hj
    rw [gD_take (by omega)]
    exact h3 j (by omega)
theorem set_last {s : List Int32} {w : Int32} (h : 1 ≤ s.length) : s.set (s.length - 1) w = s.take (s.length - 1) ++ [w] := by
  have e : s = s.take (s.length - 1) ++ [s.getD (s.length - 1) 0] := by
    conv => lhs; rw [← List.take_length (l := s), show s.length = (s.length - 1) + 1 by omega, List.take_succ, List.getElem?_eq_getElem (by omega)]
    rw [List.getD_eq_getElem?_getD, List.getElem?_eq_getElem (by omega)]
    rfl
  have e2 : s.set (s.length - 1) w = (s.take (s.length - 1) ++ [s.getD (s.length - 1) 0]).set (s.length - 1) w := congrArg (fun z : List Int32 => z.set (s.length - 1) w) e
  rw [e2, List.set_append_right _ _ (by rw [List.length_take]; omega), List.length_take, show min (s.length - 1) s.length = s.length - 1 by omega, Nat.sub_self]
  rfl
theorem set_last2 {s : List Int32} {w : Int32} (h : 2 ≤ s.length) : (s.set (s.length - 2) w).take (s.length - 1) = s.take (s.length - 2) ++ [w] := by
  rw [List.take_set, show s.length - 2 = (s.take (s.length - 1)).length - 1 by rw [List.length_take]; omega, set_last (by rw [List.length_take]; omega), List.length_take, List.take_take, show min (min (s.length - 1) s.length - 1) (s.length - 1) = min (s.length - 1) s.length - 1 by omega]
theorem cJ_both {x a b : Int32} (h0 : 6 ≤ x.toInt) (h1 : x.toInt ≤ 15) : cJoin (eSg x) a b = rBoth x a b := by
  have hx : x = 6 ∨ x = 7 ∨ x = 8 ∨ x = 9 ∨ x = 10 ∨ x = 11 ∨ x = 12 ∨ x = 13 ∨ x = 14 ∨ x = 15 := by
    rcases (by omega : x.toInt = 6 ∨ x.toInt = 7 ∨ x.toInt = 8 ∨ x.toInt = 9 ∨ x.toInt = 10 ∨ x.toInt = 11 ∨ x.toInt = 12 ∨ x.toInt = 13 ∨ x.toInt = 14 ∨ x.toInt = 15) with h | h | h | h | h | h | h | h | h | h
    · exact Or.inl (kv42 (h.trans (by decide)))
    · exact Or.inr (Or.inl (kv42 (h.trans (by decide))))
    · exact Or.inr (Or.inr (Or.inl (kv42 (h.trans (by decide)))))
    · exact Or.inr (Or.inr (Or.inr (Or.inl (kv42 (h.trans (by decide))))))
    · exact Or.inr (Or.inr (Or.inr (Or.inr (Or.inl (kv42 (h.trans (by decide)))))))
    · exact Or.inr (Or.inr (Or.inr (Or.inr (Or.inr (Or.inl (kv42 (h.trans (by decide))))))))
    · exact Or.inr (Or.inr (Or.inr (Or.inr (Or.inr (Or.inr (Or.inl (kv42 (h.trans (by decide)))))))))
    · exact Or.inr (Or.inr (Or.inr (Or.inr (Or.inr (Or.inr (Or.inr (Or.inl (kv42 (h.trans (by decide))))))))))
    · exact Or.inr (Or.inr (Or.inr (Or.inr (Or.inr (Or.inr (Or.inr (Or.inr (Or.inl (kv42 (h.trans (by decide)))))))))))
    · exact Or.inr (Or.inr (Or.inr (Or.inr (Or.inr (Or.inr (Or.inr (Or.inr (Or.inr (kv42 (h.trans (by decide)))))))))))
  rcases hx with h | h | h | h | h | h | h | h | h | h <;> subst h <;> rfl
theorem kx_6_15 {x : Int32} (h0 : 6 ≤ x.toInt) (h1 : x.toInt ≤ 15) : x = 6 ∨ x = 7 ∨ x = 8 ∨ x = 9 ∨ x = 10 ∨ x = 11 ∨ x = 12 ∨ x = 13 ∨ x = 14 ∨ x = 15 := by
  rcases (by omega : x.toInt = 6 ∨ x.toInt = 7 ∨ x.toInt = 8 ∨ x.toInt = 9 ∨ x.toInt = 10 ∨ x.toInt = 11 ∨ x.toInt = 12 ∨ x.toInt = 13 ∨ x.toInt = 14 ∨ x.toInt = 15) with h | h | h | h | h | h | h | h | h | h
  · exact Or.inl (kv42 (h.trans (by decide)))
  · exact Or.inr (Or.inl (kv42 (h.trans (by decide))))
  · exact Or.inr (Or.inr (Or.inl (kv42 (h.trans (by decide)))))
  · exact Or.inr (Or.inr (Or.inr (Or.inl (kv42 (h.trans (by decide))))))
  · exact Or.inr (Or.inr (Or.inr (Or.inr (Or.inl (kv42 (h.trans (by decide)))))))
  · exact Or.inr (Or.inr (Or.inr (Or.inr (Or.inr (Or.inl (kv42 (h.trans (by decide))))))))
  · exact Or.inr (Or.inr (Or.inr (Or.inr (Or.inr (Or.inr (Or.inl (kv42 (h.trans (by decide)))))))))
  · exact Or.inr (Or.inr (Or.inr (Or.inr (Or.inr (Or.inr (Or.inr (Or.inl (kv42 (h.trans (by decide))))))))))
  · exact Or.inr (Or.inr (Or.inr (Or.inr (Or.inr (Or.inr (Or.inr (Or.inr (Or.inl (kv42 (h.trans (by decide)))))))))))
  · exact Or.inr (Or.inr (Or.inr (Or.inr (Or.inr (Or.inr (Or.inr (Or.inr (Or.inr (kv42 (h.trans (by decide)))))))))))
theorem eSg_ne {x : Int32} (h0 : 6 ≤ x.toInt) (h1 : x.toInt ≤ 15) : (eSg x).toInt ≠ 0 ∧ (eSg x).toInt ≠ 1 ∧ (eSg x).toInt ≠ 2 ∧ (eSg x).toInt ≠ 3 ∧ (eSg x).toInt ≠ 33 ∧ (eSg x).toInt ≠ 126 := by
  rcases kx_6_15 h0 h1 with h | h | h | h | h | h | h | h | h | h <;> subst h
  · decide +kernel
  · decide +kernel
  · decide +kernel
  · decide +kernel
  · decide +kernel
  · decide +kernel
  · decide +kernel
  · decide +kernel
  · decide +kernel
  · decide +kernel
section LST
variable {st wi nm : List Int32} {len : Int32}
theorem l_step {n : Nat} {P : Int32} {S : List Int32 × Int32} {s : List Int32} {x : Int32} {k1 : Nat} (h0 : 0 ≤ P.toInt) (h1 : P.toInt < len.toInt) (hS : lRel S s) (hl : s.length ≤ 120) (e1 : st.getD P.toNatClampNeg 0 = eSt x) (e2 : wi.getD P.toNatClampNeg 0 = eWi x) (hk : kEff x s.length = some k1) : ∃ S1, lRel S1 (wOp nm x s) ∧ (wOp nm x s).length = k1 ∧ lRun st wi nm len (n + 1) P S = lRun st wi nm len n (P + 1) S1 := by
  have c0 : (0 : Int32).toInt = 0 := by decide
  have c1 : (1 : Int32).toInt = 1 := by decide
  have c33 : (33 : Int32).toInt = 33 := by decide
  have c126 : (126 : Int32).toInt = 126 := by decide
  have eq : lRun st wi nm len (n + 1) P S = (if 0 ≤ P.toInt ∧ P.toInt < len.toInt then
      (if (st.getD P.toNatClampNeg 0).toInt = 0 then lRun st wi nm len n (P + 1) (lPush S (wi.getD P.toNatClampNeg 0))
      else if (st.getD P.toNatClampNeg 0).toInt = 1 then lRun st wi nm len n (P + 1) (lPush S (if 0 ≤ (wi.getD P.toNatClampNeg 0).toInt ∧ (wi.getD P.toNatClampNeg 0).toInt < 6 then nm.getD (wi.getD P.toNatClampNeg 0).toNatClampNeg 0 else 0))
      else if (st.getD P.toNatClampNeg 0).toInt = 2 then (lPop S).1
      else if (st.getD P.toNatClampNeg 0).toInt = 3 then lRun st wi nm len n (if (lPop S).1.toInt = 0 then wi.getD P.toNatClampNeg 0 else P + 1) (lPop S).2
      else if (st.getD P.toNatClampNeg 0).toInt = 33 then lRun st wi nm len n (P + 1) (lPush (lPop S).2 (if (lPop S).1.toInt = 0 then 1 else 0))
      else if (st.getD P.toNatClampNeg 0).toInt = 126 then lRun st wi nm len n (P + 1) (lPush (lPop S).2 (-(lPop S).1))
      else lRun st wi nm len n (P + 1) (lPush (lPop (lPop S).2).2 (cJoin (st.getD P.toNatClampNeg 0) (lPop (lPop S).2).1 (lPop S).1)))
    else 0) := rfl
  rw [eq, if_pos ⟨h0, h1⟩, e1, e2]
  unfold kEff at hk
  split at hk
  next hp =>
    cases hk
    have hw : wOp nm x s = s ++ [if 18 ≤ x.toInt then x - 18 else nm.getD x.toNatClampNeg 0] := if_pos (by omega)
    rw [hw]
    by_cases h18 : 18 ≤ x.toInt
    · have a1 : eSt x = 0 := if_pos h18
      have a2 : eWi x = x - 18 := if_pos h18
      rw [a1, a2, if_pos c0, if_pos h18]
      exact ⟨_, lRel_push hS hl, by rw [List.length_append]; rfl, rfl⟩
    · have a1 : eSt x = 1 := by unfold eSt; rw [if_neg h18, if_pos (by omega)]
      have a2 : eWi x = x := by unfold eWi; rw [if_neg h18, if_pos (by omega)]
      rw [a1, a2, if_neg (by decide : ¬ ((1 : Int32).toInt = 0)), if_pos c1, if_pos (⟨by omega, by omega⟩ : 0 ≤ x.toInt ∧ x.toInt < 6), if_neg h18]
      exact ⟨_, lRel_push hS hl, by rw [List.length_append]; rfl, rfl⟩
  next hp =>
    split at hk
    next hu =>
      split at hk
      next hk1 =>
        cases hk
        obtain ⟨p1, p2⟩ := lRel_pop hS hk1
        have hw : wOp nm x s = s.set (s.length - 1) (if x.toInt = 17 then -(s.getD (s.length - 1) 0) else if (s.getD (s.length - 1) 0).toInt = 0 then 1 else 0) := by
          unfold wOp
          rw [if_neg (by omega), if_pos hu]
        rw [hw, set_last hk1]
        have hlen : (s.take (s.length - 1)).length ≤ 120 := by rw [List.length_take]; omega
        rcases hu with hu | hu
        · have a1 : eSt x = 33 := by have := kv42 (x := x) (b := 16) (hu.trans (by decide)); subst this; decide
          rw [a1, if_neg (by decide : ¬ ((33 : Int32).toInt = 0)), if_neg (by decide : ¬ ((33 : Int32).toInt = 1)), if_neg (by decide : ¬ ((33 : Int32).toInt = 2)), if_neg (by decide : ¬ ((33 : Int32).toInt = 3)), if_pos c33, p1, if_neg (by omega : ¬ (x.toInt = 17))]
          exact ⟨_, lRel_push p2 hlen, by rw [List.length_append, List.length_take]; show min (s.length - 1) s.length + 1 = _; omega, rfl⟩
        · have a1 : eSt x = 126 := by have := kv42 (x := x) (b := 17) (hu.trans (by decide)); subst this; decide
          rw [a1, if_neg (by decide : ¬ ((126 : Int32).toInt = 0)), if_neg (by decide : ¬ ((126 : Int32).toInt = 1)), if_neg (by decide : ¬ ((126 : Int32).toInt = 2)), if_neg (by decide : ¬ ((126 : Int32).toInt = 3)), if_neg (by decide : ¬ ((126 : Int32).toInt = 33)), if_pos c126, p1, if_pos hu]
          exact ⟨_, lRel_push p2 hlen, by rw [List.length_append, List.length_take]; show min (s.length - 1) s.length + 1 = _; omega, rfl⟩
      next => cases hk
    next hu =>
      split at hk
      next hb =>
        split at hk
        next hk2 =>
          cases hk
          obtain ⟨p1, p2⟩ := lRel_pop hS (by omega)
          have hl1 : (s.take (s.length - 1)).length = s.length - 1 := by rw [List.length_take]; omega
          obtain ⟨q1, q2⟩ := lRel_pop p2 (by omega)
          rw [hl1, gD_take (by omega), show s.length - 1 - 1 = s.length - 2 by omega] at q1
          rw [hl1, List.take_take, show min (s.length - 1 - 1) (s.length - 1) = s.length - 2 by omega] at q2
          have hw : wOp nm x s = (s.set (s.length - 2) (rBoth x (s.getD (s.length - 2) 0) (s.getD (s.length - 1) 0))).take (s.length - 1) := by
            unfold wOp
            rw [if_neg (by omega), if_neg hu]
          have a1 : eSt x = eSg x := by unfold eSt; rw [if_neg (by omega), if_neg (by omega)]
          obtain ⟨n0, n1, n2, n3, n4, n5⟩ := eSg_ne hb.1 hb.2
          rw [hw, set_last2 hk2, a1, if_neg n0, if_neg n1, if_neg n2, if_neg n3, if_neg n4, if_neg n5, p1, q1, cJ_both hb.1 hb.2]
          exact ⟨_, lRel_push q2 (by rw [List.length_take]; omega), by rw [List.length_append, List.length_take]; show min (s.length - 2) s.length + 1 = _; omega, rfl⟩
        next => cases hk
      next => cases hk
theorem l_codes (hlen : len.toInt ≤ 121) : ∀ (d : List Int32) (n : Nat) (P : Int32) (S : List Int32 × Int32) (s : List Int32) (k1 : Nat), 0 ≤ P.toInt → P.toInt + d.length ≤ len.toInt → lRel S s → s.length ≤ P.toInt.toNat → cAt st wi P.toInt.toNat d → dHt d s.length = some k1 → ∃ P1 S1, P1.toInt = P.toInt + d.length ∧ lRel S1 (dRun nm d s) ∧ (dRun nm d s).length = k1 ∧ lRun st wi nm len (n + d.length) P S = lRun st wi nm len n P1 S1
  | [], n, P, S, s, k1, h0, h1, hS, hl, hc, hk => by
    have hk : some s.length = some k1 := hk
    cases hk
    exact ⟨P, S, by simp, hS, rfl, rfl⟩
  | x :: d, n, P, S, s, k1, h0, h1, hS, hl, hc, hk => by
    have hk : (kEff x s.length).bind (dHt d) = some k1 := hk
    have hlx : (x :: d).length = d.length + 1 := rfl
    rw [hlx] at h1
    have t := Int32.toNat_toInt P
    cases e : kEff x s.length with
    | none => rw [e] at hk; cases hk
    | some k2 =>
      rw [e, Option.bind_some] at hk
      have a : st.getD P.toNatClampNeg 0 = eSt x ∧ wi.getD P.toNatClampNeg 0 = eWi x := by
        have a := hc 0 (by rw [hlx]; omega)
        rw [Nat.add_zero, t] at a
        exact a
      obtain ⟨S1, r1, r2, r3⟩ := l_step (len := len) (x := x) (n := n + d.length) (nm := nm) h0 (by omega) hS (by omega) a.1 a.2 e
      have c1 : (1 : Int32).toInt = 1 := by decide
      have eP : (P + 1).toInt = P.toInt + 1 := by rw [kd_add (by omega) (by omega), c1]
      have hke : k2 ≤ s.length + 1 := by
        unfold kEff at e
        split at e
        · cases e; omega
        · split at e
          · split at e
            · cases e; omega
            · cases e
          · split at e
            · split at e
              · cases e; omega
              · cases e
            · cases e
      obtain ⟨P1, S2, u1, u2, u3, u4⟩ := l_codes hlen d n (P + 1) S1 (wOp nm x s) k1 (by omega) (by omega) r1 (by omega) (fun j hj => by
        have b := hc (j + 1) (by rw [hlx]; omega)
        rw [show P.toInt.toNat + (j + 1) = (P + 1).toInt.toNat + j by omega] at b
        exact b) (by rw [r2]; exact hk)
      refine ⟨P1, S2, by rw [hlx]; omega, u2, u3, ?_⟩
      rw [hlx, show n + (d.length + 1) = n + d.length + 1 by omega, r3, u4]
theorem l_lines (hlen : len.toInt ≤ 121) : ∀ (l : List kLn) (n : Nat) (P : Int32) (S : List Int32 × Int32), 0 ≤ P.toInt → (len.toInt - P.toInt).toNat ≤ n → lRel S [] → cLy st wi P.toInt.toNat l len.toInt.toNat → (∀ x ∈ l, okLn x) → lRun st wi nm len n P S = sayL nm l
  | [], n, P, S, h0, hn, hS, hc, _ => by
    have hc : P.toInt.toNat = len.toInt.toNat := hc
    cases n with
    | zero => rfl
    | succ n =>
      unfold lRun
      exact if_neg (by omega)
  | (none, d) :: r, n, P, S, h0, hn, hS, hc, ho => by
    obtain ⟨h1, h2, h3⟩ := hc
    have hle := (cLy_congr r _ _ (fun _ _ => ⟨rfl, rfl⟩) h3).2
    have hd := (ho _ List.mem_cons_self).1
    obtain ⟨P1, S1, u1, u2, u3, u4⟩ := l_codes (nm := nm) hlen d (n - d.length) P S [] 1 h0 (by omega) hS (Nat.zero_le _) h1 hd
    rw [show n - d.length + d.length = n by omega] at u4
    rw [u4]
    obtain ⟨m, hm⟩ : ∃ m, n - d.length = m + 1 := ⟨n - d.length - 1, by omega⟩
    have t := Int32.toNat_toInt P1
    have e1 : (st.getD P1.toNatClampNeg 0).toInt = 2 := by rw [show P1.toNatClampNeg = P.toInt.toNat + d.length by omega]; exact h2
    rw [hm]
    unfold lRun
    rw [if_pos (by omega), if_neg (by omega), if_neg (by omega), if_pos e1]
    have p := (lRel_pop u2 (by omega)).1
    rw [u3] at p
    exact p
  | (some a, d) :: r, n, P, S, h0, hn, hS, hc, ho => by
    obtain ⟨h1, h2, h3, h4, h5, h6⟩ := hc
    have hle := (cLy_congr r _ _ (fun _ _ => ⟨rfl, rfl⟩) h6).2
    have hd := (ho _ List.mem_cons_self).1
    have ha := (ho _ List.mem_cons_self).2 a rfl
    obtain ⟨P1, S1, u1, u2, u3, u4⟩ := l_codes (nm := nm) hlen a (n - a.length) P S [] 1 h0 (by omega) hS (Nat.zero_le _) h1 ha
    rw [show n - a.length + a.length = n by omega] at u4
    rw [u4]
    obtain ⟨m, hm⟩ : ∃ m, n - a.length = m + 1 := ⟨n - a.length - 1, by omega⟩
    have t := Int32.toNat_toInt P1
    have c1 : (1 : Int32).toInt = 1 := by decide
    have e1 : (st.getD P1.toNatClampNeg 0).toInt = 3 := by rw [show P1.toNatClampNeg = P.toInt.toNat + a.length by omega]; exact h2
    have e2 : (wi.getD P1.toNatClampNeg 0).toInt = ((P.toInt.toNat + a.length + 1 + d.length + 1 : Nat) : Int) := by rw [show P1.toNatClampNeg = P.toInt.toNat + a.length by omega]; exact h3
    obtain ⟨p, q⟩ := lRel_pop u2 (by omega)
    rw [u3] at p q
    have q : lRel (lPop S1).2 [] := by
      rw [Nat.sub_self, List.take_zero] at q
      exact q
    have hv : (lPop S1).1 = dVal nm a := p
    rw [hm]
    have eq : lRun st wi nm len (m + 1) P1 S1 = lRun st wi nm len m (if (lPop S1).1.toInt = 0 then wi.getD P1.toNatClampNeg 0 else P1 + 1) (lPop S1).2 := by
      conv => lhs; unfold lRun
      rw [if_pos (by omega), if_neg (by omega), if_neg (by omega), if_neg (by omega), if_pos e1]
    rw [eq, hv]
    show _ = (if (dVal nm a).toInt = 0 then sayL nm r else dVal nm d)
    by_cases hz : (dVal nm a).toInt = 0
    · rw [if_pos hz, if_pos hz]
      exact l_lines hlen r m _ _ (by omega) (by omega) q (by rw [show (wi.getD P1.toNatClampNeg 0).toInt.toNat = P.toInt.toNat + a.length + 1 + d.length + 1 by omega]; exact h6) (fun x hx => ho x (List.mem_cons_of_mem _ hx))
    · rw [if_neg hz, if_neg hz]
      have eP : (P1 + 1).toInt = P1.toInt + 1 := by rw [kd_add (by omega) (by omega), c1]
      obtain ⟨P2, S2, v1, v2, v3, v4⟩ := l_codes (nm := nm) hlen d (m - d.length) (P1 + 1) (lPop S1).2 [] 1 (by omega) (by omega) q (Nat.zero_le _) (by rw [show (P1 + 1).toInt.toNat = P.toInt.toNat + a.length + 1 by omega]; exact h4) hd
      rw [show m - d.length + d.length = m by omega] at v4
      rw [v4]
      obtain ⟨m2, hm2⟩ : ∃ m2, m - d.length = m2 + 1 := ⟨m - d.length - 1, by omega⟩
      have t2 := Int32.toNat_toInt P2
      have e3 : (st.getD P2.toNatClampNeg 0).toInt = 2 := by rw [show P2.toNatClampNeg = P.toInt.toNat + a.length + 1 + d.length by omega]; exact h5
      rw [hm2]
      unfold lRun
      rw [if_pos (by omega), if_neg (by omega), if_neg (by omega), if_pos e3]
      have p2 := (lRel_pop v2 (by omega)).1
      rw [v3] at p2
      exact p2
end LST
/-- the law that class and reference have read: both say the same of any names, whatever lay on the stack -/
theorem law_same {n : Int32} {C : cS} {Z : rL} {l : List kLn} {A Y E L nm stk : List Int32} (hn : n.toInt ≤ 120) (h : sL n C Z l) (h1 : kCp Z.2.2.1 A Z.2.1.toInt.toNat) (h2 : kCp Z.2.2.2.1 Y Z.2.1.toInt.toNat) (h3 : kCp Z.2.2.2.2 E Z.2.1.toInt.toNat) (h4 : kCp Z.1.2.2 L Z.1.2.1.toInt.toNat) (hs : stk.length = 121) : lRun C.2.2.1 C.2.2.2.1 nm C.2.2.2.2 121 0 (stk, 0) = wLaw A Y E L nm Z.2.1.toInt.toNat 0 := by
  have k0 : (0 : Int32).toInt = 0 := by decide
  obtain ⟨g1, g2, g3, g4, g5, g6, g7, g8, g9, g10, g11⟩ := h
  rw [l_lines (by omega) l 121 0 (stk, 0) (by omega) (by omega) ⟨hs, by rw [k0]; rfl, fun j hj => absurd hj (Nat.not_lt_zero _)⟩ (by rw [k0]; exact g9) g11]
  exact (wLaw_say2 l _ 0 0 _ _ (rLy_congr l 0 0 _ _ (fun m hm => ⟨h1 m hm, h2 m hm, h3 m hm⟩) (fun m hm => h4 m hm) g10).1 (by omega) g11).symm
end
section
/-! THE LAW READ: the reference's code is well formed; the tape's bytes; the answers alike -/
theorem kHt_at {L d : List Int32} {f : Nat} (h : rAt L f d) : ∀ n k : Nat, n ≤ d.length → kHt L f n k = dHt (d.take n) k
  | 0, k, _ => by rw [List.take_zero]; rfl
  | n + 1, k, hn => by
    have e1 := kHt_at h n k (by omega)
    have e2 : d.take (n + 1) = d.take n ++ [d.getD n 0] := by
      rw [List.take_succ, List.getElem?_eq_getElem (by omega : n < d.length), List.getD_eq_getElem?_getD, List.getElem?_eq_getElem (by omega : n < d.length)]
      rfl
    show (kHt L f n k).bind (kEff (L.getD (f + n) 0)) = _
    rw [e1, h n (by omega), e2, dHt_app]
    cases dHt (d.take n) k with
    | none => rfl
    | some z =>
      show kEff (d.getD n 0) z = (kEff (d.getD n 0) z).bind some
      cases kEff (d.getD n 0) z <;> rfl
theorem kSeg_at {L d : List Int32} {f : Nat} {x y : Int} (h : rAt L f d) (hd : dHt d 0 = some 1) (hx : x = (f : Int)) (hy : y = ((f + d.length : Nat) : Int)) (h2 : f + d.length ≤ 200) : kSeg L x y := by
  refine ⟨by omega, by omega, by omega, ?_⟩
  rw [show x.toNat = f by omega, show y.toNat - f = d.length by omega, kHt_at h d.length 0 (Nat.le_refl _), List.take_length]
  exact hd
theorem code_rLy {A Y E L : List Int32} : ∀ (l : List kLn) (j c k e : Nat), rLy A Y E L j c l k e → e ≤ 200 → (∀ x ∈ l, okLn x) → ∀ m : Nat, j ≤ m → m < k → ((A.getD m 0).toInt < (Y.getD m 0).toInt → kSeg L (A.getD m 0).toInt (Y.getD m 0).toInt) ∧ kSeg L (Y.getD m 0).toInt (E.getD m 0).toInt
  | [], j, c, k, e, h, _, _, m, h1, h2 => by
    have := h.1
    omega
  | (none, d) :: r, j, c, k, e, h, he, ho, m, h1, h2 => by
    obtain ⟨⟨g1, g2, g3⟩, g4, g5⟩ := h
    have hr := (rLy_congr r _ _ _ _ (fun _ _ => ⟨rfl, rfl, rfl⟩) (fun _ _ => rfl) g5).2.2
    by_cases hm : m = j
    · subst hm
      exact ⟨fun z => by omega, kSeg_at g4 (ho _ List.mem_cons_self).1 g2 g3 (by omega)⟩
    · exact code_rLy r (j + 1) _ k e g5 he (fun x hx => ho x (List.mem_cons_of_mem _ hx)) m (by omega) h2
  | (some b, d) :: r, j, c, k, e, h, he, ho, m, h1, h2 => by
    obtain ⟨⟨g1, g2, g3⟩, g4, g5, g6⟩ := h
    have hr := (rLy_congr r _ _ _ _ (fun _ _ => ⟨rfl, rfl, rfl⟩) (fun _ _ => rfl) g6).2.2
    by_cases hm : m = j
    · subst hm
      exact ⟨fun _ => kSeg_at g4 ((ho _ List.mem_cons_self).2 b rfl) g1 g2 (by omega), kSeg_at g5 (ho _ List.mem_cons_self).1 g2 g3 (by omega)⟩
    · exact code_rLy r (j + 1) _ k e g6 he (fun x hx => ho x (List.mem_cons_of_mem _ hx)) m (by omega) h2
theorem code_law {n : Int32} {C : cS} {Z : rL} {l : List kLn} {i : Nat → Int32} {a : Nat → List Int32} (hn : n.toInt ≤ 120) (h : sL n C Z l) (e0 : i 7432 = Z.2.1) (h1 : kCp Z.2.2.1 (a 120) Z.2.1.toInt.toNat) (h2 : kCp Z.2.2.2.1 (a 121) Z.2.1.toInt.toNat) (h3 : kCp Z.2.2.2.2 (a 122) Z.2.1.toInt.toNat) (h4 : kCp Z.1.2.2 (a 123) Z.1.2.1.toInt.toNat) : kCode i a := by
  obtain ⟨g1, g2, g3, g4, g5, g6, g7, g8, g9, g10, g11⟩ := h
  intro j hj
  rw [e0] at hj
  exact code_rLy l 0 0 _ _ (rLy_congr l 0 0 _ _ (fun m hm => ⟨h1 m hm, h2 m hm, h3 m hm⟩) (fun m hm => h4 m hm) g10).1 (by omega) g11 j (Nat.zero_le _) (by omega)
section PK
variable {i : Nat → Int32} {a : Nat → List Int32} {q : Nat → List Int64} {r : Nat → Nat}
noncomputable def kTB (i : Nat → Int32) (a : Nat → List Int32) : Prop := kTap i a ∧ kBy (a 99)
theorem kTB_fr {w : kW} {i1 : Nat → Int32} {a1 : Nat → List Int32} {q1 : Nat → List Int64} {r1 : Nat → Nat} (g : kG w i a q r i1 a1 q1 r1) (f : kFrT w = true) (h : kTB i a) : kTB i1 a1 := by
  refine ⟨kTap_fr g f h.1, ?_⟩
  unfold kFrT at f
  simp only [Bool.and_eq_true, Bool.not_eq_true'] at f
  rw [g.fa _ f.2.2.1]
  exact h.2
theorem kBy_to {i1 : Nat → Int32} {a1 : Nat → List Int32} {q1 : Nat → List Int64} {r1 : Nat → Nat} (h : kTB i a) (g1 : kG yw86_0 i a q r i1 a1 q1 r1) : kBy (a1 119) := by
  rw [g1.fa 119 rfl, ← h.1.2]
  exact h.2
theorem kBy_all {l : List Int32} (h : l.all (fun x => decide (0 ≤ x.toInt ∧ x.toInt ≤ 255)) = true) : kBy l := fun j => by
  by_cases hj : j < l.length
  · rw [List.getD_eq_getElem?_getD, List.getElem?_eq_getElem hj]
    exact of_decide_eq_true (List.all_eq_true.mp h _ (List.getElem_mem hj))
  · rw [List.getD_eq_getElem?_getD, List.getElem?_eq_none (by omega)]
    exact ⟨by decide, by decide⟩
theorem kBy_set {l : List Int32} {j : Nat} {x : Int32} (h : kBy l) (h0 : 0 ≤ x.toInt) (h1 : x.toInt ≤ 255) : kBy (l.set j x) := by
  intro m
  rw [List.getD_eq_getElem?_getD, List.getElem?_set]
  by_cases e : j = m
  · rw [if_pos e]
    by_cases hl : j < l.length
    · rw [if_pos hl]
      exact ⟨h0, h1⟩
    · rw [if_neg hl]
      exact ⟨by decide, by decide⟩
  · rw [if_neg e, ← List.getD_eq_getElem?_getD]
    exact h m
end PK
theorem st_feed2 {i i1 i2 : Nat → Int32} {a a1 a2 : Nat → List Int32} {q q1 q2 : Nat → List Int64} {r r1 r2 : Nat → Nat} {v w x1 : Int32} (h : kTB i a) (g1 : kG yw85_0 i a q r i1 a1 q1 r1) (P1 : (((v.toInt = (-1)) ∧ (¬ (((0 : Int) ≤ x1.toInt) ∧ (x1.toInt ≤ 255))) ∧ ((i1 6273).toInt = (i 6273).toInt)) ∨ (((0 : Int) ≤ x1.toInt) ∧ (x1.toInt ≤ 255) ∧ (((v.toInt = (-3)) ∧ ((120 : Int) ≤ (i 6273).toInt) ∧ ((i1 6273).toInt = (i 6273).toInt)) ∨ (((i 6273).toInt < 120) ∧ (v.toInt = ((i 6273).toInt + 1)) ∧ ((i1 6273).toInt = ((i 6273).toInt + 1)))))) ∧ ((((0 : Int) ≤ x1.toInt) ∧ (x1.toInt ≤ 255) ∧ ((i 6273).toInt < 120) → a1 99 = (a 99).set (i 6273).toNatClampNeg x1) ∧ (¬ (((0 : Int) ≤ x1.toInt) ∧ (x1.toInt ≤ 255) ∧ ((i 6273).toInt < 120)) → a1 99 = a 99))) (g2 : kG yw146_116 i1 a1 q1 r1 i2 a2 q2 r2) (P2 : (((w.toInt = (-1)) ∧ (¬ (((0 : Int) ≤ x1.toInt) ∧ (x1.toInt ≤ 255))) ∧ ((i2 7429).toInt = (i1 7429).toInt)) ∨ (((0 : Int) ≤ x1.toInt) ∧ (x1.toInt ≤ 255) ∧ (((w.toInt = (-3)) ∧ ((120 : Int) ≤ (i1 7429).toInt) ∧ ((i2 7429).toInt = (i1 7429).toInt)) ∨ (((i1 7429).toInt < 120) ∧ (w.toInt = ((i1 7429).toInt + 1)) ∧ ((i2 7429).toInt = ((i1 7429).toInt + 1)))))) ∧ ((((0 : Int) ≤ x1.toInt) ∧ (x1.toInt ≤ 255) ∧ ((i1 7429).toInt < 120) → a2 119 = (a1 119).set (i1 7429).toNatClampNeg x1) ∧ (¬ (((0 : Int) ≤ x1.toInt) ∧ (x1.toInt ≤ 255) ∧ ((i1 7429).toInt < 120)) → a2 119 = a1 119))) : kTB i2 a2 ∧ v = w := by
  obtain ⟨k1, k2⟩ := st_feed h.1 g1 P1 g2 P2
  refine ⟨⟨k1, ?_⟩, k2⟩
  rw [g2.fa 99 rfl]
  by_cases c : 0 ≤ x1.toInt ∧ x1.toInt ≤ 255 ∧ (i 6273).toInt < 120
  · rw [P1.2.1 ⟨c.1, c.2.1, c.2.2⟩]
    exact kBy_set h.2 c.1 c.2.1
  · rw [P1.2.2 (fun z => c ⟨z.1, z.2.1, z.2.2⟩)]
    exact h.2
end
section
/-! THE LAW BECOMES ANOTHER: the market stays alike -/
noncomputable def cLw (t : List Int32) (nn v : Int32) (i : Nat → Int32) (a : Nat → List Int32) (r : Nat → Nat) (i1 : Nat → Int32) (a1 : Nat → List Int32) (r1 : Nat → Nat) : Prop := ∃ st wi : List Int32, st.length = 121 ∧ wi.length = 121 ∧ ((cOk nn (cTxt t nn st wi) ∧ v = 1 ∧ i1 (64 * r1 0) = 1 ∧ (a1 (r1 0 + 1), a1 (r1 0 + 2), i1 (64 * r1 0 + 3)) = (cTxt t nn st wi).2.2) ∨ (¬ cOk nn (cTxt t nn st wi) ∧ v = -100 - (cTxt t nn st wi).1 ∧ r1 0 = r 0 ∧ i1 (64 * r 0) = i (64 * r 0) ∧ i1 (64 * r 0 + 3) = i (64 * r 0 + 3) ∧ a1 (r 0 + 1) = a (r 0 + 1) ∧ a1 (r 0 + 2) = a (r 0 + 2)))
noncomputable def rLw (t : List Int32) (nn v : Int32) (i : Nat → Int32) (a : Nat → List Int32) (i1 : Nat → Int32) (a1 : Nat → List Int32) : Prop := ∃ L A Y E : List Int32, (L.length = 200 ∧ A.length = 61 ∧ Y.length = 61 ∧ E.length = 61) ∧ ((rOk nn (rTxt t nn L A Y E) ∧ v = 1 ∧ i1 7431 = 1 ∧ i1 7432 = (rTxt t nn L A Y E).2.2.1 ∧ kCp (rTxt t nn L A Y E).2.2.2.1 (a1 120) (rTxt t nn L A Y E).2.2.1.toInt.toNat ∧ kCp (rTxt t nn L A Y E).2.2.2.2.1 (a1 121) (rTxt t nn L A Y E).2.2.1.toInt.toNat ∧ kCp (rTxt t nn L A Y E).2.2.2.2.2 (a1 122) (rTxt t nn L A Y E).2.2.1.toInt.toNat ∧ kCp (rTxt t nn L A Y E).2.1.2.2 (a1 123) (rTxt t nn L A Y E).2.1.2.1.toInt.toNat) ∨ (¬ rOk nn (rTxt t nn L A Y E) ∧ v = -100 - (rTxt t nn L A Y E).2.1.1 ∧ i1 7431 = i 7431 ∧ i1 7432 = i 7432 ∧ a1 120 = a 120 ∧ a1 121 = a 121 ∧ a1 122 = a 122 ∧ a1 123 = a 123))
section LW
variable {i i1 i2 : Nat → Int32} {a a1 a2 : Nat → List Int32} {q q1 q2 : Nat → List Int64} {r r1 r2 : Nat → Nat} {u1 u2 : Int32}
theorem kz86_0 (hI : kI i a q) (hr : kr r) (hB : kBy (a 99)) : km 57 86 [.ref 0] (ks i a q r) (kVI yw86_0 i a q r (fun v i1 a1 q1 r1 => (i1 6273).toInt = 0 ∧ cLw (a 99) (i 6273) v i a r i1 a1 r1)) := by
  have hcase : (r 2 = 10 ∧ r 0 = 100) ∨ (r 2 = 100 ∧ r 0 = 10) := by
    rcases hr.1 with h | h
    · exact Or.inr ⟨h.2, h.1⟩
    · exact Or.inl ⟨h.2, h.1⟩
  rcases hcase with ⟨hL, h0⟩ | ⟨hL, h0⟩
  · refine km_imp (ke86_0_L10 hI hr (a 99) (i 6273) rfl rfl hL hB) ?_
    rintro rv h1 ⟨v, i1, a1, q1, r1, e1, e2, g, hz, hc⟩
    refine ⟨v, i1, a1, q1, r1, e1, e2, kG_call (kG_self _ hI hr) g (by decide +kernel), hz, a 11, a 12, hI.2.1 11, hI.2.1 12, ?_⟩
    rcases hc with ⟨c1, c2, c3, c4, c5, c6⟩ | ⟨c1, c2, c3, c4⟩
    · exact Or.inl ⟨c1, c2, by rw [c3]; exact c5, by rw [c3]; exact c6⟩
    · exact Or.inr ⟨c1, c2, by rw [c3, h0], by rw [h0]; exact g.fi 6400 rfl, by rw [h0]; exact g.fi 6403 rfl, by rw [h0]; exact g.fa 101 rfl, by rw [h0]; exact g.fa 102 rfl⟩
  · refine km_imp (ke86_0_L100 hI hr (a 99) (i 6273) rfl rfl hL hB) ?_
    rintro rv h1 ⟨v, i1, a1, q1, r1, e1, e2, g, hz, hc⟩
    refine ⟨v, i1, a1, q1, r1, e1, e2, kG_call (kG_self _ hI hr) g (by decide +kernel), hz, a 101, a 102, hI.2.1 101, hI.2.1 102, ?_⟩
    rcases hc with ⟨c1, c2, c3, c4, c5, c6⟩ | ⟨c1, c2, c3, c4⟩
    · exact Or.inl ⟨c1, c2, by rw [c3]; exact c5, by rw [c3]; exact c6⟩
    · exact Or.inr ⟨c1, c2, by rw [c3, h0], by rw [h0]; exact g.fi 640 rfl, by rw [h0]; exact g.fi 643 rfl, by rw [h0]; exact g.fa 11 rfl, by rw [h0]; exact g.fa 12 rfl⟩
theorem kz159_116 (hI : kI i a q) (hr : kr r) (hE_code : kCode i a) (hB : kBy (a 119)) : km 55 159 [.ref 116] (ks i a q r) (kVI yw159_116 i a q r (fun v i1 a1 q1 r1 => ((i1 7429).toInt = 0 ∧ rLw (a 119) (i 7429) v i a i1 a1) ∧ kCode i1 a1)) := by
  refine km_imp (kf159_116 hI hr (a 119) (i 7429) rfl rfl hB) ?_
  rintro rv h1 ⟨v, i1, a1, q1, r1, e1, e2, g, h0, hc⟩
  have hb : (0 : Int) ≤ (i 7429).toInt ∧ (i 7429).toInt ≤ 120 := hI.1 7429
  refine ⟨v, i1, a1, q1, r1, e1, e2, kG_call (kG_self _ hI hr) g (by decide +kernel), ⟨h0, a 127, a 124, a 125, a 126, ⟨hI.2.1 127, hI.2.1 124, hI.2.1 125, hI.2.1 126⟩, hc⟩, ?_⟩
  rcases hc with ⟨c1, c2, c3, c4, c5, c6, c7, c8⟩ | ⟨c1, c2, c3, c4, c5, c6, c7, c8⟩
  · obtain ⟨_, s2, s3⟩ := sim_txt (t := a 119) (n := i 7429) (st := List.replicate 121 0) (wi := List.replicate 121 0) (L := a 127) (A := a 124) (Y := a 125) (E := a 126) hb.1 hb.2 List.length_replicate List.length_replicate (hI.2.1 127) (hI.2.1 124) (hI.2.1 125) (hI.2.1 126)
    obtain ⟨l, hl⟩ := s3 (s2.mpr c1)
    exact code_law hb.2 hl c4 c5 c6 c7 c8
  · exact kCode_of hE_code c4 c5 c6 c7 c8
set_option maxHeartbeats 4000000 in
theorem st_lawm (K : kI i a q ∧ kr r) (T : kTB i a) (h : kMar i a r) (g1 : kG yw86_0 i a q r i1 a1 q1 r1) (P1 : (i1 6273).toInt = 0 ∧ cLw (a 99) (i 6273) u1 i a r i1 a1 r1) (g2 : kG yw159_116 i1 a1 q1 r1 i2 a2 q2 r2) (P2 : (i2 7429).toInt = 0 ∧ rLw (a1 119) (i1 7429) u2 i1 a1 i2 a2) : (kTB i2 a2 ∧ kMar i2 a2 r2) ∧ u1 = u2 := by
  obtain ⟨hI, hr⟩ := K
  obtain ⟨h1, h2, h3, h4, h5, h6, h7, h8⟩ := h
  have hb : (0 : Int) ≤ (i 6273).toInt ∧ (i 6273).toInt ≤ 120 := hI.1 6273
  have tb : kTB i2 a2 := by
    refine ⟨st_tlaw T.1 g1 P1.1 g2 P2.1, ?_⟩
    rw [g2.fa 99 rfl, g1.fa 99 rfl]
    exact T.2
  have en : i1 7429 = i 6273 := by
    rw [g1.fi 7429 rfl]
    exact kj_v (by have := T.1.1; omega)
  obtain ⟨st, wi, l1, l2, hc⟩ := P1.2
  obtain ⟨L, A, Y, E, ⟨l3, l4, l5, l6⟩, hd⟩ := P2.2
  rw [g1.fa 119 rfl, ← T.1.2, en] at hd
  obtain ⟨s1, s2, s3⟩ := sim_txt (t := a 99) hb.1 hb.2 l1 l2 l3 l4 l5 l6
  have er : r2 0 = r1 0 := g2.fr 0 rfl
  have hr1 := g1.R
  have fA : ∀ p : Nat, p = r1 0 + 1 ∨ p = r1 0 + 2 → a2 p = a1 p := fun p hp => by
    rcases hr1.1 with ⟨hz, _⟩ | ⟨hz, _⟩ <;> rw [hz] at hp <;> rcases hp with e | e <;> subst e <;> exact g2.fa _ rfl
  have fI : ∀ p : Nat, p = 64 * r1 0 ∨ p = 64 * r1 0 + 3 → i2 p = i1 p := fun p hp => by
    rcases hr1.1 with ⟨hz, _⟩ | ⟨hz, _⟩ <;> rw [hz] at hp <;> rcases hp with e | e <;> subst e <;> exact g2.fi _ rfl
  have fin : kLaw i2 a2 r2 → kMar i2 a2 r2 := fun lw => ⟨kCn_fr g2 (by decide +kernel) (kCn_fr g1 (by decide +kernel) h1), kMk_fr g2 (by decide +kernel) (kMk_fr g1 (by decide +kernel) h2), kNr_fr g2 (by decide +kernel) (kNr_fr g1 (by decide +kernel) h3), kGr_fr g2 (by decide +kernel) (kGr_fr g1 (by decide +kernel) h4), kLd_fr g2 (by decide +kernel) (kLd_fr g1 (by decide +kernel) h5), kZe_fr g2 (by decide +kernel) (kZe_fr g1 (by decide +kernel) h6), lw, kIm_fr g2 (by decide +kernel) (kIm_fr g1 (by decide +kernel) h8)⟩
  rcases hc with ⟨c1, c2, c3, c4⟩ | ⟨c1, c2, c3, c4, c5, c6, c7⟩
  · rcases hd with ⟨d1, d2, d3, d4, d5, d6, d7, d8⟩ | ⟨d1, _⟩
    · refine ⟨⟨tb, fin ⟨?_, fun _ => ?_⟩⟩, by rw [c2, d2]⟩
      · rw [er, fI _ (Or.inl rfl), c3, d3]
      · obtain ⟨l, hl⟩ := s3 c1
        rw [er, fI _ (Or.inr rfl), fA _ (Or.inl rfl), fA _ (Or.inr rfl)]
        intro stk w pu hh c o d hs
        have k := law_same (nm := [w, pu, hh, c, o, d]) (stk := stk) hb.2 hl d5 d6 d7 d8 hs
        rw [show a1 (r1 0 + 1) = (cTxt (a 99) (i 6273) st wi).2.2.1 from congrArg (fun z : List Int32 × List Int32 × Int32 => z.1) c4, show a1 (r1 0 + 2) = (cTxt (a 99) (i 6273) st wi).2.2.2.1 from congrArg (fun z : List Int32 × List Int32 × Int32 => z.2.1) c4, show i1 (64 * r1 0 + 3) = (cTxt (a 99) (i 6273) st wi).2.2.2.2 from congrArg (fun z : List Int32 × List Int32 × Int32 => z.2.2) c4]
        unfold wl
        rw [d4]
        exact k
    · exact absurd (s2.mp c1) d1
  · rcases hd with ⟨d1, _⟩ | ⟨d1, d2, d3, d4, d5, d6, d7, d8⟩
    · exact absurd (s2.mpr d1) c1
    · refine ⟨⟨tb, fin ⟨?_, fun z => ?_⟩⟩, by rw [c2, d2, s1]⟩
      · rw [er, fI _ (Or.inl rfl), c3, c4, d3, g1.fi 7431 rfl]
        exact h7.1
      · rw [er, fI _ (Or.inr rfl), fA _ (Or.inl rfl), fA _ (Or.inr rfl), c3, c5, c6, c7]
        unfold wl
        rw [d4, d5, d6, d7, d8, g1.fi 7432 rfl, g1.fa 120 rfl, g1.fa 121 rfl, g1.fa 122 rfl, g1.fa 123 rfl]
        refine h7.2 ?_
        rw [← g1.fi 7431 rfl, ← d3]
        exact z
end LW
end
section
/-! THE MARKETS AT THE BEGINNING -/
theorem kst_z (p j : Nat) (h : p ≠ 136) : (kst_a p).getD j 0 = 0 := by
  have ep : kst_a p = List.replicate (kL p) 0 := by
    unfold kst_a
    cases eb : Nat.beq p 136 with
    | true => exact absurd (Nat.eq_of_beq_eq_true eb) h
    | false => rfl
  rw [ep, kst_g0]
theorem kst_mar : kMar kst_i kst_a kst_r := by
  have z := kst_z
  have zz : ∀ p j n m : Nat, p ≠ 136 → n ≠ 136 → (kst_a p).getD j 0 = (kst_a n).getD m 0 := fun p j n m h1 h2 => (z p j h1).trans (z n m h2).symm
  refine ⟨by decide +kernel, ⟨fun j _ => zz _ _ _ _ (by decide) (by decide), ?_, ?_, fun j _ => zz _ _ _ _ (by decide) (by decide), ?_, fun j hj => ?_⟩, ⟨fun j _ => zz _ _ _ _ (by decide) (by decide), fun j _ => ⟨zz _ _ _ _ (by decide) (by decide), zz _ _ _ _ (by decide) (by decide), zz _ _ _ _ (by decide) (by decide)⟩, ?_, ?_, ?_⟩, ⟨?_, ?_, ⟨?_, ?_, ?_⟩, fun j hj => ?_⟩, by decide +kernel, fun j _ _ => ⟨z _ _ (by decide), z _ _ (by decide)⟩, ⟨by decide +kernel, fun h => absurd (by decide +kernel : (kst_i 7431).toInt = 0) h⟩, ⟨by decide +kernel, fun h => absurd (by decide +kernel : (kst_i 2).toInt = 0) h⟩⟩
  · rw [z 118 8 (by decide)]; decide +kernel
  · rw [z 118 9 (by decide)]; decide +kernel
  · rw [z 118 18 (by decide)]; decide +kernel
  · have e : (kst_i 450).toInt = 0 := by decide +kernel
    omega
  · show kst_i 70 = kst_i 7426
    decide +kernel
  · show kst_i 71 = kst_i 7427
    decide +kernel
  · show kst_i 72 = (kst_a 118).getD 8 0
    rw [z 118 8 (by decide)]; decide +kernel
  · show kst_i 5700 = kst_i 7452
    decide +kernel
  · show kst_i 5701 = kst_i 7453
    decide +kernel
  · show 0 ≤ (kst_i 7453).toInt
    decide +kernel
  · show (kst_i 7453).toInt ≤ (kst_i 7452).toInt
    decide +kernel
  · show (kst_i 7452).toInt ≤ 40
    decide +kernel
  · have e : (kst_i 7452).toInt = 0 := by decide +kernel
    have hj : (j : Int) < (kst_i 7452).toInt := hj
    omega
theorem mar_3rd {i : Nat → Int32} {a : Nat → List Int32} {q : Nat → List Int64} {r : Nat → Nat} (hI : kI i a q) (h : kMar i a r) : ((1 : Int) ≤ (i 70).toInt) ∧ ((i 70).toInt ≤ 5) := by
  rw [show i 70 = i 7426 from h.2.2.1.2.2.1]
  exact kI_3rd hI
end
