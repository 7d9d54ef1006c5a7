/-! THE LAW READ: the reference's code is well formed; the tape's bytes; the answers alike -/
theorem kHt_at {L d : List Int32} {f : Nat} (h : rAt L f d) : ∀ n k : Nat, n ≤ d.length → kHt L f n k = dHt (d.take n) k
  | 0, k, _ => by rw [List.take_zero]; rfl
  | n + 1, k, hn => by
    have e1 := kHt_at h n k (by omega)
    have e2 : d.take (n + 1) = d.take n ++ [d.getD n 0] := by
      rw [List.take_succ, List.getElem?_eq_getElem (by omega : n < d.length), List.getD_eq_getElem?_getD, List.getElem?_eq_getElem (by omega : n < d.length)]
      rfl
    show (kHt L f n k).bind (kEff (L.getD (f + n) 0)) = _
    rw [e1, h n (by omega), e2, dHt_app]
    cases dHt (d.take n) k with
    | none => rfl
    | some z =>
      show kEff (d.getD n 0) z = (kEff (d.getD n 0) z).bind some
      cases kEff (d.getD n 0) z <;> rfl
theorem kSeg_at {L d : List Int32} {f : Nat} {x y : Int} (h : rAt L f d) (hd : dHt d 0 = some 1) (hx : x = (f : Int)) (hy : y = ((f + d.length : Nat) : Int)) (h2 : f + d.length ≤ 200) : kSeg L x y := by
  refine ⟨by omega, by omega, by omega, ?_⟩
  rw [show x.toNat = f by omega, show y.toNat - f = d.length by omega, kHt_at h d.length 0 (Nat.le_refl _), List.take_length]
  exact hd
theorem code_rLy {A Y E L : List Int32} : ∀ (l : List kLn) (j c k e : Nat), rLy A Y E L j c l k e → e ≤ 200 → (∀ x ∈ l, okLn x) → ∀ m : Nat, j ≤ m → m < k → ((A.getD m 0).toInt < (Y.getD m 0).toInt → kSeg L (A.getD m 0).toInt (Y.getD m 0).toInt) ∧ kSeg L (Y.getD m 0).toInt (E.getD m 0).toInt
  | [], j, c, k, e, h, _, _, m, h1, h2 => by
    have := h.1
    omega
  | (none, d) :: r, j, c, k, e, h, he, ho, m, h1, h2 => by
    obtain ⟨⟨g1, g2, g3⟩, g4, g5⟩ := h
    have hr := (rLy_congr r _ _ _ _ (fun _ _ => ⟨rfl, rfl, rfl⟩) (fun _ _ => rfl) g5).2.2
    by_cases hm : m = j
    · subst hm
      exact ⟨fun z => by omega, kSeg_at g4 (ho _ List.mem_cons_self).1 g2 g3 (by omega)⟩
    · exact code_rLy r (j + 1) _ k e g5 he (fun x hx => ho x (List.mem_cons_of_mem _ hx)) m (by omega) h2
  | (some b, d) :: r, j, c, k, e, h, he, ho, m, h1, h2 => by
    obtain ⟨⟨g1, g2, g3⟩, g4, g5, g6⟩ := h
    have hr := (rLy_congr r _ _ _ _ (fun _ _ => ⟨rfl, rfl, rfl⟩) (fun _ _ => rfl) g6).2.2
    by_cases hm : m = j
    · subst hm
      exact ⟨fun _ => kSeg_at g4 ((ho _ List.mem_cons_self).2 b rfl) g1 g2 (by omega), kSeg_at g5 (ho _ List.mem_cons_self).1 g2 g3 (by omega)⟩
    · exact code_rLy r (j + 1) _ k e g6 he (fun x hx => ho x (List.mem_cons_of_mem _ hx)) m (by omega) h2
theorem code_law {n : Int32} {C : cS} {Z : rL} {l : List kLn} {i : Nat → Int32} {a : Nat → List Int32} (hn : n.toInt ≤ 120) (h : sL n C Z l) (e0 : i 7432 = Z.2.1) (h1 : kCp Z.2.2.1 (a 120) Z.2.1.toInt.toNat) (h2 : kCp Z.2.2.2.1 (a 121) Z.2.1.toInt.toNat) (h3 : kCp Z.2.2.2.2 (a 122) Z.2.1.toInt.toNat) (h4 : kCp Z.1.2.2 (a 123) Z.1.2.1.toInt.toNat) : kCode i a := by
  obtain ⟨g1, g2, g3, g4, g5, g6, g7, g8, g9, g10, g11⟩ := h
  intro j hj
  rw [e0] at hj
  exact code_rLy l 0 0 _ _ (rLy_congr l 0 0 _ _ (fun m hm => ⟨h1 m hm, h2 m hm, h3 m hm⟩) (fun m hm => h4 m hm) g10).1 (by omega) g11 j (Nat.zero_le _) (by omega)
section PK
variable {i : Nat → Int32} {a : Nat → List Int32} {q : Nat → List Int64} {r : Nat → Nat}
def kTB (i : Nat → Int32) (a : Nat → List Int32) : Prop := kTap i a ∧ kBy (a 99)
theorem kTB_fr {w : kW} {i1 : Nat → Int32} {a1 : Nat → List Int32} {q1 : Nat → List Int64} {r1 : Nat → Nat} (g : kG w i a q r i1 a1 q1 r1) (f : kFrT w = true) (h : kTB i a) : kTB i1 a1 := by
  refine ⟨kTap_fr g f h.1, ?_⟩
  unfold kFrT at f
  simp only [Bool.and_eq_true, Bool.not_eq_true'] at f
  rw [g.fa _ f.2.2.1]
  exact h.2
theorem kBy_to {i1 : Nat → Int32} {a1 : Nat → List Int32} {q1 : Nat → List Int64} {r1 : Nat → Nat} (h : kTB i a) (g1 : kG yw86_0 i a q r i1 a1 q1 r1) : kBy (a1 119) := by
  rw [g1.fa 119 rfl, ← h.1.2]
  exact h.2
theorem kBy_all {l : List Int32} (h : l.all (fun x => decide (0 ≤ x.toInt ∧ x.toInt ≤ 255)) = true) : kBy l := fun j => by
  by_cases hj : j < l.length
  · rw [List.getD_eq_getElem?_getD, List.getElem?_eq_getElem hj]
    exact of_decide_eq_true (List.all_eq_true.mp h _ (List.getElem_mem hj))
  · rw [List.getD_eq_getElem?_getD, List.getElem?_eq_none (by omega)]
    exact ⟨by decide, by decide⟩
theorem kBy_set {l : List Int32} {j : Nat} {x : Int32} (h : kBy l) (h0 : 0 ≤ x.toInt) (h1 : x.toInt ≤ 255) : kBy (l.set j x) := by
  intro m
  rw [List.getD_eq_getElem?_getD, List.getElem?_set]
  by_cases e : j = m
  · rw [if_pos e]
    by_cases hl : j < l.length
    · rw [if_pos hl]
      exact ⟨h0, h1⟩
    · rw [if_neg hl]
      exact ⟨by decide, by decide⟩
  · rw [if_neg e, ← List.getD_eq_getElem?_getD]
    exact h m
end PK
theorem st_feed2 {i i1 i2 : Nat → Int32} {a a1 a2 : Nat → List Int32} {q q1 q2 : Nat → List Int64} {r r1 r2 : Nat → Nat} {v w x1 : Int32} (h : kTB i a) (g1 : kG yw85_0 i a q r i1 a1 q1 r1) (P1 : (((v.toInt = (-1)) ∧ (¬ (((0 : Int) ≤ x1.toInt) ∧ (x1.toInt ≤ 255))) ∧ ((i1 6273).toInt = (i 6273).toInt)) ∨ (((0 : Int) ≤ x1.toInt) ∧ (x1.toInt ≤ 255) ∧ (((v.toInt = (-3)) ∧ ((120 : Int) ≤ (i 6273).toInt) ∧ ((i1 6273).toInt = (i 6273).toInt)) ∨ (((i 6273).toInt < 120) ∧ (v.toInt = ((i 6273).toInt + 1)) ∧ ((i1 6273).toInt = ((i 6273).toInt + 1)))))) ∧ ((((0 : Int) ≤ x1.toInt) ∧ (x1.toInt ≤ 255) ∧ ((i 6273).toInt < 120) → a1 99 = (a 99).set (i 6273).toNatClampNeg x1) ∧ (¬ (((0 : Int) ≤ x1.toInt) ∧ (x1.toInt ≤ 255) ∧ ((i 6273).toInt < 120)) → a1 99 = a 99))) (g2 : kG yw146_116 i1 a1 q1 r1 i2 a2 q2 r2) (P2 : (((w.toInt = (-1)) ∧ (¬ (((0 : Int) ≤ x1.toInt) ∧ (x1.toInt ≤ 255))) ∧ ((i2 7429).toInt = (i1 7429).toInt)) ∨ (((0 : Int) ≤ x1.toInt) ∧ (x1.toInt ≤ 255) ∧ (((w.toInt = (-3)) ∧ ((120 : Int) ≤ (i1 7429).toInt) ∧ ((i2 7429).toInt = (i1 7429).toInt)) ∨ (((i1 7429).toInt < 120) ∧ (w.toInt = ((i1 7429).toInt + 1)) ∧ ((i2 7429).toInt = ((i1 7429).toInt + 1)))))) ∧ ((((0 : Int) ≤ x1.toInt) ∧ (x1.toInt ≤ 255) ∧ ((i1 7429).toInt < 120) → a2 119 = (a1 119).set (i1 7429).toNatClampNeg x1) ∧ (¬ (((0 : Int) ≤ x1.toInt) ∧ (x1.toInt ≤ 255) ∧ ((i1 7429).toInt < 120)) → a2 119 = a1 119))) : kTB i2 a2 ∧ v = w := by
  obtain ⟨k1, k2⟩ := st_feed h.1 g1 P1 g2 P2
  refine ⟨⟨k1, ?_⟩, k2⟩
  rw [g2.fa 99 rfl]
  by_cases c : 0 ≤ x1.toInt ∧ x1.toInt ≤ 255 ∧ (i 6273).toInt < 120
  · rw [P1.2.1 ⟨c.1, c.2.1, c.2.2⟩]
    exact kBy_set h.2 c.1 c.2.1
  · rw [P1.2.2 (fun z => c ⟨z.1, z.2.1, z.2.2⟩)]
    exact h.2

