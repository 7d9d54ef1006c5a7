/-! BOTH LAWS SAY THE SAME -/
def dRun (nm : List Int32) : List Int32 → List Int32 → List Int32
  | [], s => s
  | x :: d, s => dRun nm d (wOp nm x s)
def dVal (nm d : List Int32) : Int32 := (dRun nm d []).getD 0 0
def sayL (nm : List Int32) : List kLn → Int32
  | [] => 0
  | (none, d) :: _ => dVal nm d
  | (some a, d) :: r => if (dVal nm a).toInt = 0 then sayL nm r else dVal nm d
theorem dRun_snoc (nm : List Int32) : ∀ (d s : List Int32) (x : Int32), dRun nm (d ++ [x]) s = wOp nm x (dRun nm d s)
  | [], s, x => rfl
  | y :: d, s, x => dRun_snoc nm d (wOp nm y s) x
theorem wRun_at {L nm d : List Int32} {f : Nat} (h : rAt L f d) : ∀ n : Nat, n ≤ d.length → wRun L nm f n = dRun nm (d.take n) []
  | 0, _ => by rw [List.take_zero]; rfl
  | n + 1, hn => by
    have e : d.take (n + 1) = d.take n ++ [d.getD n 0] := by
      rw [List.take_succ, List.getElem?_eq_getElem (by omega), List.getD_eq_getElem?_getD, List.getElem?_eq_getElem (by omega)]
      rfl
    rw [e, dRun_snoc, ← wRun_at h n (by omega), ← h n (by omega)]
    rfl
theorem wVal_at {L nm d : List Int32} {f : Nat} {x y : Int32} (h : rAt L f d) (hx : x.toInt = (f : Int)) (hy : y.toInt = ((f + d.length : Nat) : Int)) : wVal L nm x y = dVal nm d := by
  unfold wVal dVal
  rw [show x.toInt.toNat = f by omega, show (y.toInt - x.toInt).toNat = d.length by omega, wRun_at h d.length (Nat.le_refl _), List.take_length]
theorem dHt_ne {d : List Int32} (h : dHt d 0 = some 1) : 1 ≤ d.length := by
  cases d with
  | nil => cases h
  | cons x d => exact Nat.succ_le_succ (Nat.zero_le _)
theorem wLaw_say2 {A Y E L nm : List Int32} : ∀ (l : List kLn) (m j c k e : Nat), rLy A Y E L j c l k e → k = j + m → (∀ x ∈ l, okLn x) → wLaw A Y E L nm m j = sayL nm l
  | [], m, j, c, k, e, h, hk, _ => by
    have h1 := h.1
    have hm : m = 0 := by omega
    subst hm
    rfl
  | (none, d) :: r, m, j, c, k, e, h, hk, ho => by
    obtain ⟨⟨h1, h2, h3⟩, h4, h5⟩ := h
    have := (rLy_congr r _ _ _ _ (fun _ _ => ⟨rfl, rfl, rfl⟩) (fun _ _ => rfl) h5).2.1
    cases m with
    | zero => omega
    | succ m =>
      have e1 : wLaw A Y E L nm (m + 1) j = (if (A.getD j 0).toInt < (Y.getD j 0).toInt ∧ (wVal L nm (A.getD j 0) (Y.getD j 0)).toInt = 0 then wLaw A Y E L nm m (j + 1) else wVal L nm (Y.getD j 0) (E.getD j 0)) := rfl
      rw [e1, if_neg (fun z => by have := z.1; omega)]
      exact wVal_at h4 h2 h3
  | (some a, d) :: r, m, j, c, k, e, h, hk, ho => by
    obtain ⟨⟨h1, h2, h3⟩, h4, h5, h6⟩ := h
    have := (rLy_congr r _ _ _ _ (fun _ _ => ⟨rfl, rfl, rfl⟩) (fun _ _ => rfl) h6).2.1
    have ha := dHt_ne ((ho _ List.mem_cons_self).2 a rfl)
    cases m with
    | zero => omega
    | succ m =>
      have e1 : wLaw A Y E L nm (m + 1) j = (if (A.getD j 0).toInt < (Y.getD j 0).toInt ∧ (wVal L nm (A.getD j 0) (Y.getD j 0)).toInt = 0 then wLaw A Y E L nm m (j + 1) else wVal L nm (Y.getD j 0) (E.getD j 0)) := rfl
      have e2 : wVal L nm (A.getD j 0) (Y.getD j 0) = dVal nm a := wVal_at h4 h1 h2
      have e3 : wVal L nm (Y.getD j 0) (E.getD j 0) = dVal nm d := wVal_at h5 h2 h3
      rw [e1, e2, e3]
      show _ = (if (dVal nm a).toInt = 0 then sayL nm r else dVal nm d)
      by_cases hz : (dVal nm a).toInt = 0
      · rw [if_pos ⟨by omega, hz⟩, if_pos hz]
        exact wLaw_say2 r m (j + 1) _ k e h6 (by omega) (fun x hx => ho x (List.mem_cons_of_mem _ hx))
      · rw [if_neg (fun z => hz z.2), if_neg hz]
/-- the class's stack beside a list -/
def lRel (S : List Int32 × Int32) (s : List Int32) : Prop := S.1.length = 121 ∧ S.2.toInt = s.length ∧ ∀ j : Nat, j < s.length → S.1.getD j 0 = s.getD j 0
theorem lRel_push {S : List Int32 × Int32} {s : List Int32} {v : Int32} (h : lRel S s) (hl : s.length ≤ 120) : lRel (lPush S v) (s ++ [v]) := by
  obtain ⟨h1, h2, h3⟩ := h
  have t := Int32.toNat_toInt S.2
  have k1 : (1 : Int32).toInt = 1 := by decide
  have e : lPush S v = (S.1.set S.2.toNatClampNeg v, S.2 + 1) := if_pos (by omega)
  rw [e]
  refine ⟨by simpa using h1, ?_, fun j hj => ?_⟩
  · dsimp only
    rw [kd_add (by omega) (by omega), k1, h2]
    simp
  · dsimp only
    rw [List.length_append] at hj
    have hj : j < s.length + 1 := hj
    rw [gD_set (by omega)]
    by_cases c : j = S.2.toNatClampNeg
    · rw [if_pos c, gD_r (by omega), show j - s.length = 0 by omega]
      rfl
    · rw [if_neg c, gD_l (by omega)]
      exact h3 j (by omega)
theorem gD_take {s : List Int32} {n j : Nat} (h : j < n) : (s.take n).getD j 0 = s.getD j 0 := by
  rw [List.getD_eq_getElem?_getD, List.getElem?_take_of_lt h, ← List.getD_eq_getElem?_getD]
theorem lRel_pop {S : List Int32 × Int32} {s : List Int32} (h : lRel S s) (hl : 1 ≤ s.length) : (lPop S).1 = s.getD (s.length - 1) 0 ∧ lRel (lPop S).2 (s.take (s.length - 1)) := by
  obtain ⟨h1, h2, h3⟩ := h
  have k1 : (1 : Int32).toInt = 1 := by decide
  have b := kd_bd S.2
  have e : lPop S = (S.1.getD (S.2 - 1).toNatClampNeg 0, (S.1, S.2 - 1)) := if_pos (by omega)
  have e1 : (S.2 - 1).toInt = S.2.toInt - 1 := by rw [kd_sub (by omega) (by omega), k1]
  have t := Int32.toNat_toInt (S.2 - 1)
  rw [e]
  refine ⟨?_, h1, ?_, fun j hj => ?_⟩
  · dsimp only
    rw [show (S.2 - 1).toNatClampNeg = s.length - 1 by omega]
    exact h3 _ (by omega)
  · dsimp only
    rw [e1, h2, List.length_take]
    omega
  · rw [List.length_take] at hj
    rw [gD_take (by omega)]
    exact h3 j (by omega)
theorem set_last {s : List Int32} {w : Int32} (h : 1 ≤ s.length) : s.set (s.length - 1) w = s.take (s.length - 1) ++ [w] := by
  have e : s = s.take (s.length - 1) ++ [s.getD (s.length - 1) 0] := by
    conv => lhs; rw [← List.take_length (l := s), show s.length = (s.length - 1) + 1 by omega, List.take_succ, List.getElem?_eq_getElem (by omega)]
    rw [List.getD_eq_getElem?_getD, List.getElem?_eq_getElem (by omega)]
    rfl
  have e2 : s.set (s.length - 1) w = (s.take (s.length - 1) ++ [s.getD (s.length - 1) 0]).set (s.length - 1) w := congrArg (fun z : List Int32 => z.set (s.length - 1) w) e
  rw [e2, List.set_append_right _ _ (by rw [List.length_take]; omega), List.length_take, show min (s.length - 1) s.length = s.length - 1 by omega, Nat.sub_self]
  rfl
theorem set_last2 {s : List Int32} {w : Int32} (h : 2 ≤ s.length) : (s.set (s.length - 2) w).take (s.length - 1) = s.take (s.length - 2) ++ [w] := by
  rw [List.take_set, show s.length - 2 = (s.take (s.length - 1)).length - 1 by rw [List.length_take]; omega, set_last (by rw [List.length_take]; omega), List.length_take, List.take_take, show min (min (s.length - 1) s.length - 1) (s.length - 1) = min (s.length - 1) s.length - 1 by omega]
theorem cJ_both {x a b : Int32} (h0 : 6 ≤ x.toInt) (h1 : x.toInt ≤ 15) : cJoin (eSg x) a b = rBoth x a b := by
  have hx : x = 6 ∨ x = 7 ∨ x = 8 ∨ x = 9 ∨ x = 10 ∨ x = 11 ∨ x = 12 ∨ x = 13 ∨ x = 14 ∨ x = 15 := by
    rcases (by omega : x.toInt = 6 ∨ x.toInt = 7 ∨ x.toInt = 8 ∨ x.toInt = 9 ∨ x.toInt = 10 ∨ x.toInt = 11 ∨ x.toInt = 12 ∨ x.toInt = 13 ∨ x.toInt = 14 ∨ x.toInt = 15) with h | h | h | h | h | h | h | h | h | h
    · exact Or.inl (kv42 (h.trans (by decide)))
    · exact Or.inr (Or.inl (kv42 (h.trans (by decide))))
    · exact Or.inr (Or.inr (Or.inl (kv42 (h.trans (by decide)))))
    · exact Or.inr (Or.inr (Or.inr (Or.inl (kv42 (h.trans (by decide))))))
    · exact Or.inr (Or.inr (Or.inr (Or.inr (Or.inl (kv42 (h.trans (by decide)))))))
    · exact Or.inr (Or.inr (Or.inr (Or.inr (Or.inr (Or.inl (kv42 (h.trans (by decide))))))))
    · exact Or.inr (Or.inr (Or.inr (Or.inr (Or.inr (Or.inr (Or.inl (kv42 (h.trans (by decide)))))))))
    · exact Or.inr (Or.inr (Or.inr (Or.inr (Or.inr (Or.inr (Or.inr (Or.inl (kv42 (h.trans (by decide))))))))))
    · exact Or.inr (Or.inr (Or.inr (Or.inr (Or.inr (Or.inr (Or.inr (Or.inr (Or.inl (kv42 (h.trans (by decide)))))))))))
    · exact Or.inr (Or.inr (Or.inr (Or.inr (Or.inr (Or.inr (Or.inr (Or.inr (Or.inr (kv42 (h.trans (by decide)))))))))))
  rcases hx with h | h | h | h | h | h | h | h | h | h <;> subst h <;> rfl
theorem eSg_ne {x : Int32} (h0 : 6 ≤ x.toInt) (h1 : x.toInt ≤ 15) : (eSg x).toInt ≠ 0 ∧ (eSg x).toInt ≠ 1 ∧ (eSg x).toInt ≠ 2 ∧ (eSg x).toInt ≠ 3 ∧ (eSg x).toInt ≠ 33 ∧ (eSg x).toInt ≠ 126 := by
  unfold eSg
  have k1 : (124 : Int32).toInt = 124 := by decide
  have k2 : (38 : Int32).toInt = 38 := by decide
  have k3 : (60 : Int32).toInt = 60 := by decide
  have k4 : (61 : Int32).toInt = 61 := by decide
  have k5 : (62 : Int32).toInt = 62 := by decide
  have k6 : (43 : Int32).toInt = 43 := by decide
  have k7 : (45 : Int32).toInt = 45 := by decide
  have k8 : (42 : Int32).toInt = 42 := by decide
  have k9 : (47 : Int32).toInt = 47 := by decide
  have k10 : (37 : Int32).toInt = 37 := by decide
  repeat' split
  all_goals omega
section LST
variable {st wi nm : List Int32} {len : Int32}
theorem l_step {n : Nat} {P : Int32} {S : List Int32 × Int32} {s : List Int32} {x : Int32} {k1 : Nat} (h0 : 0 ≤ P.toInt) (h1 : P.toInt < len.toInt) (hS : lRel S s) (hl : s.length ≤ 120) (e1 : st.getD P.toNatClampNeg 0 = eSt x) (e2 : wi.getD P.toNatClampNeg 0 = eWi x) (hk : kEff x s.length = some k1) : ∃ S1, lRel S1 (wOp nm x s) ∧ (wOp nm x s).length = k1 ∧ lRun st wi nm len (n + 1) P S = lRun st wi nm len n (P + 1) S1 := by
  have c0 : (0 : Int32).toInt = 0 := by decide
  have c1 : (1 : Int32).toInt = 1 := by decide
  have c33 : (33 : Int32).toInt = 33 := by decide
  have c126 : (126 : Int32).toInt = 126 := by decide
  have eq : lRun st wi nm len (n + 1) P S = (if 0 ≤ P.toInt ∧ P.toInt < len.toInt then
      (if (st.getD P.toNatClampNeg 0).toInt = 0 then lRun st wi nm len n (P + 1) (lPush S (wi.getD P.toNatClampNeg 0))
      else if (st.getD P.toNatClampNeg 0).toInt = 1 then lRun st wi nm len n (P + 1) (lPush S (if 0 ≤ (wi.getD P.toNatClampNeg 0).toInt ∧ (wi.getD P.toNatClampNeg 0).toInt < 6 then nm.getD (wi.getD P.toNatClampNeg 0).toNatClampNeg 0 else 0))
      else if (st.getD P.toNatClampNeg 0).toInt = 2 then (lPop S).1
      else if (st.getD P.toNatClampNeg 0).toInt = 3 then lRun st wi nm len n (if (lPop S).1.toInt = 0 then wi.getD P.toNatClampNeg 0 else P + 1) (lPop S).2
      else if (st.getD P.toNatClampNeg 0).toInt = 33 then lRun st wi nm len n (P + 1) (lPush (lPop S).2 (if (lPop S).1.toInt = 0 then 1 else 0))
      else if (st.getD P.toNatClampNeg 0).toInt = 126 then lRun st wi nm len n (P + 1) (lPush (lPop S).2 (-(lPop S).1))
      else lRun st wi nm len n (P + 1) (lPush (lPop (lPop S).2).2 (cJoin (st.getD P.toNatClampNeg 0) (lPop (lPop S).2).1 (lPop S).1)))
    else 0) := rfl
  rw [eq, if_pos ⟨h0, h1⟩, e1, e2]
  unfold kEff at hk
  split at hk
  next hp =>
    cases hk
    have hw : wOp nm x s = s ++ [if 18 ≤ x.toInt then x - 18 else nm.getD x.toNatClampNeg 0] := if_pos (by omega)
    rw [hw]
    by_cases h18 : 18 ≤ x.toInt
    · have a1 : eSt x = 0 := if_pos h18
      have a2 : eWi x = x - 18 := if_pos h18
      rw [a1, a2, if_pos c0, if_pos h18]
      exact ⟨_, lRel_push hS hl, by rw [List.length_append]; rfl, rfl⟩
    · have a1 : eSt x = 1 := by unfold eSt; rw [if_neg h18, if_pos (by omega)]
      have a2 : eWi x = x := by unfold eWi; rw [if_neg h18, if_pos (by omega)]
      rw [a1, a2, if_neg (by decide : ¬ ((1 : Int32).toInt = 0)), if_pos c1, if_pos (⟨by omega, by omega⟩ : 0 ≤ x.toInt ∧ x.toInt < 6), if_neg h18]
      exact ⟨_, lRel_push hS hl, by rw [List.length_append]; rfl, rfl⟩
  next hp =>
    split at hk
    next hu =>
      split at hk
      next hk1 =>
        cases hk
        obtain ⟨p1, p2⟩ := lRel_pop hS hk1
        have hw : wOp nm x s = s.set (s.length - 1) (if x.toInt = 17 then -(s.getD (s.length - 1) 0) else if (s.getD (s.length - 1) 0).toInt = 0 then 1 else 0) := by
          unfold wOp
          rw [if_neg (by omega), if_pos hu]
        rw [hw, set_last hk1]
        have hlen : (s.take (s.length - 1)).length ≤ 120 := by rw [List.length_take]; omega
        rcases hu with hu | hu
        · have a1 : eSt x = 33 := by have := kv42 (x := x) (b := 16) (hu.trans (by decide)); subst this; decide
          rw [a1, if_neg (by decide : ¬ ((33 : Int32).toInt = 0)), if_neg (by decide : ¬ ((33 : Int32).toInt = 1)), if_neg (by decide : ¬ ((33 : Int32).toInt = 2)), if_neg (by decide : ¬ ((33 : Int32).toInt = 3)), if_pos c33, p1, if_neg (by omega : ¬ (x.toInt = 17))]
          exact ⟨_, lRel_push p2 hlen, by rw [List.length_append, List.length_take]; show min (s.length - 1) s.length + 1 = _; omega, rfl⟩
        · have a1 : eSt x = 126 := by have := kv42 (x := x) (b := 17) (hu.trans (by decide)); subst this; decide
          rw [a1, if_neg (by decide : ¬ ((126 : Int32).toInt = 0)), if_neg (by decide : ¬ ((126 : Int32).toInt = 1)), if_neg (by decide : ¬ ((126 : Int32).toInt = 2)), if_neg (by decide : ¬ ((126 : Int32).toInt = 3)), if_neg (by decide : ¬ ((126 : Int32).toInt = 33)), if_pos c126, p1, if_pos hu]
          exact ⟨_, lRel_push p2 hlen, by rw [List.length_append, List.length_take]; show min (s.length - 1) s.length + 1 = _; omega, rfl⟩
      next => cases hk
    next hu =>
      split at hk
      next hb =>
        split at hk
        next hk2 =>
          cases hk
          obtain ⟨p1, p2⟩ := lRel_pop hS (by omega)
          have hl1 : (s.take (s.length - 1)).length = s.length - 1 := by rw [List.length_take]; omega
          obtain ⟨q1, q2⟩ := lRel_pop p2 (by omega)
          rw [hl1, gD_take (by omega), show s.length - 1 - 1 = s.length - 2 by omega] at q1
          rw [hl1, List.take_take, show min (s.length - 1 - 1) (s.length - 1) = s.length - 2 by omega] at q2
          have hw : wOp nm x s = (s.set (s.length - 2) (rBoth x (s.getD (s.length - 2) 0) (s.getD (s.length - 1) 0))).take (s.length - 1) := by
            unfold wOp
            rw [if_neg (by omega), if_neg hu]
          have a1 : eSt x = eSg x := by unfold eSt; rw [if_neg (by omega), if_neg (by omega)]
          obtain ⟨n0, n1, n2, n3, n4, n5⟩ := eSg_ne hb.1 hb.2
          rw [hw, set_last2 hk2, a1, if_neg n0, if_neg n1, if_neg n2, if_neg n3, if_neg n4, if_neg n5, p1, q1, cJ_both hb.1 hb.2]
          exact ⟨_, lRel_push q2 (by rw [List.length_take]; omega), by rw [List.length_append, List.length_take]; show min (s.length - 2) s.length + 1 = _; omega, rfl⟩
        next => cases hk
      next => cases hk
theorem l_codes (hlen : len.toInt ≤ 121) : ∀ (d : List Int32) (n : Nat) (P : Int32) (S : List Int32 × Int32) (s : List Int32) (k1 : Nat), 0 ≤ P.toInt → P.toInt + d.length ≤ len.toInt → lRel S s → s.length ≤ P.toInt.toNat → cAt st wi P.toInt.toNat d → dHt d s.length = some k1 → ∃ P1 S1, P1.toInt = P.toInt + d.length ∧ lRel S1 (dRun nm d s) ∧ (dRun nm d s).length = k1 ∧ lRun st wi nm len (n + d.length) P S = lRun st wi nm len n P1 S1
  | [], n, P, S, s, k1, h0, h1, hS, hl, hc, hk => by
    have hk : some s.length = some k1 := hk
    cases hk
    exact ⟨P, S, by simp, hS, rfl, rfl⟩
  | x :: d, n, P, S, s, k1, h0, h1, hS, hl, hc, hk => by
    have hk : (kEff x s.length).bind (dHt d) = some k1 := hk
    have hlx : (x :: d).length = d.length + 1 := rfl
    rw [hlx] at h1
    have t := Int32.toNat_toInt P
    cases e : kEff x s.length with
    | none => rw [e] at hk; cases hk
    | some k2 =>
      rw [e, Option.bind_some] at hk
      have a : st.getD P.toNatClampNeg 0 = eSt x ∧ wi.getD P.toNatClampNeg 0 = eWi x := by
        have a := hc 0 (by rw [hlx]; omega)
        rw [Nat.add_zero, t] at a
        exact a
      obtain ⟨S1, r1, r2, r3⟩ := l_step (len := len) (x := x) (n := n + d.length) (nm := nm) h0 (by omega) hS (by omega) a.1 a.2 e
      have c1 : (1 : Int32).toInt = 1 := by decide
      have eP : (P + 1).toInt = P.toInt + 1 := by rw [kd_add (by omega) (by omega), c1]
      have hke : k2 ≤ s.length + 1 := by
        unfold kEff at e
        split at e
        · cases e; omega
        · split at e
          · split at e
            · cases e; omega
            · cases e
          · split at e
            · split at e
              · cases e; omega
              · cases e
            · cases e
      obtain ⟨P1, S2, u1, u2, u3, u4⟩ := l_codes hlen d n (P + 1) S1 (wOp nm x s) k1 (by omega) (by omega) r1 (by omega) (fun j hj => by
        have b := hc (j + 1) (by rw [hlx]; omega)
        rw [show P.toInt.toNat + (j + 1) = (P + 1).toInt.toNat + j by omega] at b
        exact b) (by rw [r2]; exact hk)
      refine ⟨P1, S2, by rw [hlx]; omega, u2, u3, ?_⟩
      rw [hlx, show n + (d.length + 1) = n + d.length + 1 by omega, r3, u4]
theorem l_lines (hlen : len.toInt ≤ 121) : ∀ (l : List kLn) (n : Nat) (P : Int32) (S : List Int32 × Int32), 0 ≤ P.toInt → (len.toInt - P.toInt).toNat ≤ n → lRel S [] → cLy st wi P.toInt.toNat l len.toInt.toNat → (∀ x ∈ l, okLn x) → lRun st wi nm len n P S = sayL nm l
  | [], n, P, S, h0, hn, hS, hc, _ => by
    have hc : P.toInt.toNat = len.toInt.toNat := hc
    cases n with
    | zero => rfl
    | succ n =>
      unfold lRun
      exact if_neg (by omega)
  | (none, d) :: r, n, P, S, h0, hn, hS, hc, ho => by
    obtain ⟨h1, h2, h3⟩ := hc
    have hle := (cLy_congr r _ _ (fun _ _ => ⟨rfl, rfl⟩) h3).2
    have hd := (ho _ List.mem_cons_self).1
    obtain ⟨P1, S1, u1, u2, u3, u4⟩ := l_codes (nm := nm) hlen d (n - d.length) P S [] 1 h0 (by omega) hS (Nat.zero_le _) h1 hd
    rw [show n - d.length + d.length = n by omega] at u4
    rw [u4]
    obtain ⟨m, hm⟩ : ∃ m, n - d.length = m + 1 := ⟨n - d.length - 1, by omega⟩
    have t := Int32.toNat_toInt P1
    have e1 : (st.getD P1.toNatClampNeg 0).toInt = 2 := by rw [show P1.toNatClampNeg = P.toInt.toNat + d.length by omega]; exact h2
    rw [hm]
    unfold lRun
    rw [if_pos (by omega), if_neg (by omega), if_neg (by omega), if_pos e1]
    have p := (lRel_pop u2 (by omega)).1
    rw [u3] at p
    exact p
  | (some a, d) :: r, n, P, S, h0, hn, hS, hc, ho => by
    obtain ⟨h1, h2, h3, h4, h5, h6⟩ := hc
    have hle := (cLy_congr r _ _ (fun _ _ => ⟨rfl, rfl⟩) h6).2
    have hd := (ho _ List.mem_cons_self).1
    have ha := (ho _ List.mem_cons_self).2 a rfl
    obtain ⟨P1, S1, u1, u2, u3, u4⟩ := l_codes (nm := nm) hlen a (n - a.length) P S [] 1 h0 (by omega) hS (Nat.zero_le _) h1 ha
    rw [show n - a.length + a.length = n by omega] at u4
    rw [u4]
    obtain ⟨m, hm⟩ : ∃ m, n - a.length = m + 1 := ⟨n - a.length - 1, by omega⟩
    have t := Int32.toNat_toInt P1
    have c1 : (1 : Int32).toInt = 1 := by decide
    have e1 : (st.getD P1.toNatClampNeg 0).toInt = 3 := by rw [show P1.toNatClampNeg = P.toInt.toNat + a.length by omega]; exact h2
    have e2 : (wi.getD P1.toNatClampNeg 0).toInt = ((P.toInt.toNat + a.length + 1 + d.length + 1 : Nat) : Int) := by rw [show P1.toNatClampNeg = P.toInt.toNat + a.length by omega]; exact h3
    obtain ⟨p, q⟩ := lRel_pop u2 (by omega)
    rw [u3] at p q
    have q : lRel (lPop S1).2 [] := by
      rw [Nat.sub_self, List.take_zero] at q
      exact q
    have hv : (lPop S1).1 = dVal nm a := p
    rw [hm]
    have eq : lRun st wi nm len (m + 1) P1 S1 = lRun st wi nm len m (if (lPop S1).1.toInt = 0 then wi.getD P1.toNatClampNeg 0 else P1 + 1) (lPop S1).2 := by
      conv => lhs; unfold lRun
      rw [if_pos (by omega), if_neg (by omega), if_neg (by omega), if_neg (by omega), if_pos e1]
    rw [eq, hv]
    show _ = (if (dVal nm a).toInt = 0 then sayL nm r else dVal nm d)
    by_cases hz : (dVal nm a).toInt = 0
    · rw [if_pos hz, if_pos hz]
      exact l_lines hlen r m _ _ (by omega) (by omega) q (by rw [show (wi.getD P1.toNatClampNeg 0).toInt.toNat = P.toInt.toNat + a.length + 1 + d.length + 1 by omega]; exact h6) (fun x hx => ho x (List.mem_cons_of_mem _ hx))
    · rw [if_neg hz, if_neg hz]
      have eP : (P1 + 1).toInt = P1.toInt + 1 := by rw [kd_add (by omega) (by omega), c1]
      obtain ⟨P2, S2, v1, v2, v3, v4⟩ := l_codes (nm := nm) hlen d (m - d.length) (P1 + 1) (lPop S1).2 [] 1 (by omega) (by omega) q (Nat.zero_le _) (by rw [show (P1 + 1).toInt.toNat = P.toInt.toNat + a.length + 1 by omega]; exact h4) hd
      rw [show m - d.length + d.length = m by omega] at v4
      rw [v4]
      obtain ⟨m2, hm2⟩ : ∃ m2, m - d.length = m2 + 1 := ⟨m - d.length - 1, by omega⟩
      have t2 := Int32.toNat_toInt P2
      have e3 : (st.getD P2.toNatClampNeg 0).toInt = 2 := by rw [show P2.toNatClampNeg = P.toInt.toNat + a.length + 1 + d.length by omega]; exact h5
      rw [hm2]
      unfold lRun
      rw [if_pos (by omega), if_neg (by omega), if_neg (by omega), if_pos e3]
      have p2 := (lRel_pop v2 (by omega)).1
      rw [v3] at p2
      exact p2
end LST
/-- the law that class and reference have read: both say the same of any names, whatever lay on the stack -/
theorem law_same {n : Int32} {C : cS} {Z : rL} {l : List kLn} {A Y E L nm stk : List Int32} (hn : n.toInt ≤ 120) (h : sL n C Z l) (h1 : kCp Z.2.2.1 A Z.2.1.toInt.toNat) (h2 : kCp Z.2.2.2.1 Y Z.2.1.toInt.toNat) (h3 : kCp Z.2.2.2.2 E Z.2.1.toInt.toNat) (h4 : kCp Z.1.2.2 L Z.1.2.1.toInt.toNat) (hs : stk.length = 121) : lRun C.2.2.1 C.2.2.2.1 nm C.2.2.2.2 121 0 (stk, 0) = wLaw A Y E L nm Z.2.1.toInt.toNat 0 := by
  have k0 : (0 : Int32).toInt = 0 := by decide
  obtain ⟨g1, g2, g3, g4, g5, g6, g7, g8, g9, g10, g11⟩ := h
  rw [l_lines (by omega) l 121 0 (stk, 0) (by omega) (by omega) ⟨hs, by rw [k0]; rfl, fun j hj => absurd hj (Nat.not_lt_zero _)⟩ (by rw [k0]; exact g9) g11]
  exact (wLaw_say2 l _ 0 0 _ _ (rLy_congr l 0 0 _ _ (fun m hm => ⟨h1 m hm, h2 m hm, h3 m hm⟩) (fun m hm => h4 m hm) g10).1 (by omega) g11).symm
